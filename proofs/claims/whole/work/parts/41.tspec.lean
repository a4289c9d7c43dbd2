/-! THE METHODS OF THE CLASS ON TERMS -/
section TS
variable {xs : List Int32} {f : mF} {g : mG} {t u c s d : Nat} {M : aM} {i j k b : Nat} {l r : List Nat}
theorem tc_fd (h : tv i l) (hk : k < 4) : ((lN (tC i l)).toUInt64 >>> ((nI k * 12).toInt64.toUInt64 &&& Int64.toUInt64 63)).toInt64 &&& 4095 = lN (if k < sN i then fF (l.getD k 0) else 0) := by
  have := tC_lt h
  rw [l_12, nI_mul, lN_ushr (by omega) (by omega), j_4095, lN_and, and4095, tC_fd h hk]
theorem fd_lt (h : tv i l) : (if k < sN i then fF (l.getD k 0) else 0) < 4096 := by
  split
  · rename_i hk; exact fF_lt (getD_lt h hk)
  · decide
theorem t_cntH (h : tv i l) {cal : aY} : ∀ q k, q + k = 4 → am_X cal k_Term_countLeaves 4 [(0, .long (lN (tC i l))), (2, .int (nI (min k (sN i)))), (3, .int (nI k))] [] M = some (.inl (some (.int (nI (sN i)))), M)
  | 0, k, hq => by
    have := sN_le i
    rw [e_Term_countLeaves_4, l_4, if_pos (nI_le (by omega) (by omega)), e_Term_countLeaves_38, Nat.min_eq_right (by omega)]
  | q + 1, k, hq => by
    have h4 := sN_le i
    have hf := fd_lt (k := k) h
    rw [e_Term_countLeaves_4, l_4, if_neg (by rw [nI_leI (by omega) (by omega)]; omega), tc_fd h (by omega), j_0]
    simp (disch := omega) only [lN_cmp0]
    by_cases hk : k < sN i
    · have := fF_pos (l.getD k 0)
      rw [if_pos hk, if_pos (by omega), e_Term_countLeaves_29, e_Term_countLeaves_30, nI_1, nI_1, show min k (sN i) + 1 = min (k + 1) (sN i) by omega]
      exact t_cntH h q (k + 1) (by omega)
    · rw [if_neg hk, if_neg (by omega), e_Term_countLeaves_30, Int32.add_zero, nI_1, show min k (sN i) = min (k + 1) (sN i) by omega]
      exact t_cntH h q (k + 1) (by omega)
theorem t_count (hd : 1 ≤ d) (h : tv i l) : am_Y d 44 [.long (lN (tC i l))] M = some (.inl (some (.int (nI (sN i)))), M) := by
  obtain ⟨d, rfl⟩ : ∃ e, d = e + 1 := ⟨d - 1, by omega⟩
  rw [y_Term_countLeaves, e_Term_countLeaves_0]
  have := t_cntH (M := M) (cal := am_Y d) h 4 0 rfl
  rwa [Nat.zero_min] at this
theorem t_shape (hd : 1 ≤ d) (h : tv i l) : am_Y d 45 [.long (lN (tC i l))] M = some (.inl (some (.int (nI (sD i)))), M) := by
  obtain ⟨d, rfl⟩ : ∃ e, d = e + 1 := ⟨d - 1, by omega⟩
  have h1 := tC_lt h
  have h2 := sD_lt i h.1
  rw [y_Term_shapeOf, e_Term_shapeOf_0, l_48, lN_ushr (by omega) (by omega), tC_sh h, lN_i, show (4095 : Int32) = nI 4095 from rfl, nI_and, and4095, Nat.mod_eq_of_lt h2]
theorem t_build (hd : 1 ≤ d) {a D : Nat} (ha : a < 281474976710656) (hD : D < 4096) : am_Y d 46 [.long (lN a), .int (nI D)] M = some (.inl (some (.long (lN (a + 281474976710656 * D)))), M) := by
  obtain ⟨d, rfl⟩ : ∃ e, d = e + 1 := ⟨d - 1, by omega⟩
  rw [y_Term_build, e_Term_build_0, l_48, nI_l (by omega), lN_shl _ (by omega), lN_or, or_shl (by omega), Nat.mul_comm]
theorem sP_f : ∀ i, i < 9 → ∀ j, j < 9 → sN i + sN j ≤ 4 → sP i j < 9 ∧ sN (sP i j) = sN i + sN j ∧ (nI (sD i) + m_deep.getD (sN i) 0) * m_tens.getD (sN j) 0 + (nI (sD j) + m_deep.getD (sN j) 0) = nI (sD (sP i j)) ∧ ((1 ||| (sB i <<< 1)) ||| (sB j <<< (2 * sN i))) = sB (sP i j) ∧ sL (sP i j) = i ∧ sR (sP i j) = j := by decide +kernel
theorem tv_pair (h : tv i l) (k : tv j r) (hn : sN i + sN j ≤ 4) : tv (sP i j) (l ++ r) :=
  ⟨(sP_f i h.1 j k.1 hn).1, by rw [List.length_append, h.2.1, k.2.1, (sP_f i h.1 j k.1 hn).2.1], fun a ha => (List.mem_append.mp ha).elim (h.2.2 a) (k.2.2 a)⟩
theorem t_pair (hd : 2 ≤ d) (h : tv i l) (k : tv j r) : am_Y d 43 [.long (lN (tC i l)), .long (lN (tC j r))] (mM xs f g t u c s) = some (.inl (some (.long (if sN i + sN j ≤ 4 then lN (tC (sP i j) (l ++ r)) else 0))), mM xs f g t u c s) := by
  obtain ⟨d, rfl⟩ : ∃ e, d = e + 1 := ⟨d - 1, by omega⟩
  have hi := sN_le i
  have hj := sN_le j
  have h1 : 1 ≤ d := by omega
  by_cases hn : sN i + sN j ≤ 4
  · obtain ⟨q1, q2, q3, q4, _⟩ := sP_f i h.1 j k.1 hn
    have tp := tv_pair h k hn
    have ea : (lN (tC i l) &&& 281474976710655) ||| ((lN (tC j r) &&& 281474976710655) <<< ((nI (sN i) * 12).toInt64 &&& 63)) = lN (cL (l ++ r)) := by
      have hl := cL_lt l h.2.2
      rw [h.2.1, ← pow12] at hl
      rw [j_48, lN_and, lN_and, and48, and48, tC_lo h, tC_lo k, l_12, nI_mul, lN_shl _ (by omega), lN_or, or_shl hl, pow12, cL_app, h.2.1, Nat.mul_comm]
    have e5 : nI (sN i) + nI (sN j) ≤ 4 := by rw [nI_add, l_4, nI_leI (by omega) (by omega)]; omega
    have eb := t_build (M := mM xs f g t u c s) h1 (tv_c tp) (sD_lt _ q1)
    simp (maxSteps := 4000000) (disch := first | omega | assumption) only [↓b_ix, ↓b_l3, ↓b_a3_0, ↓b_a3_1, ↓b_a3_2, ↓b_l4, ↓b_a4_0, ↓b_a4_1, ↓b_a4_2, ↓b_a4_3, ↓b_l129, ↓b_a129_0, ↓b_l130, ↓b_i130_1, ↓b_wi130_1, ↓b_l133, ↓b_a133_0, ↓b_a133_1, ↓b_i133_2, ↓b_wi133_2, ↓b_j133_3, ↓b_wj133_3, ↓b_i133_4, ↓b_wi133_4, ↓b_l134, ↓b_a134_0, ↓b_a134_1, ↓b_i134_2, ↓b_wi134_2, ↓b_i134_3, ↓b_wi134_3, ↓b_l135, ↓b_i135_1, ↓b_wi135_1, ↓b_l139, ↓b_a139_0, ↓b_a139_1, ↓b_a139_2, ↓b_a139_3, ↓b_a139_4, ↓b_a139_5, ↓b_a139_6, ↓b_a139_7, ↓b_a139_8, ↓b_a139_9, ↓b_a139_10, ↓b_a139_11, ↓b_a139_12, ↓b_a139_13, ↓b_a139_14, ↓b_i139_15, ↓b_wi139_15, ↓b_i139_16, ↓b_wi139_16, ↓b_i139_17, ↓b_wi139_17, ↓b_a139_18, ↓b_i139_19, ↓b_wi139_19, ↓b_i139_20, ↓b_wi139_20, ↓b_i139_21, ↓b_wi139_21, ↓b_l6, ↓b_i6, ↓b_wi6, ↓b_l140, ↓b_i140, ↓b_wi140, ↓b_l141, ↓b_i141, ↓b_wi141, ↓b_l142, ↓b_i142, ↓b_wi142, ↓b_l143, ↓b_i143, ↓b_wi143, ↓b_l144, ↓b_j144, ↓b_wj144, ↓b_l145, ↓b_j145, ↓b_wj145, ↓b_l146, ↓b_i146, ↓b_wi146, ↓b_l147, ↓b_i147, ↓b_wi147, ↓b_l148, ↓b_i148, ↓b_wi148, ↓b_l149, ↓b_i149, ↓b_wi149, ↓b_l150, ↓b_j150, ↓b_wj150, ↓b_l151, ↓b_i151, ↓b_wi151, ↓b_l152, ↓b_j152, ↓b_wj152, ↓b_l153, ↓b_i153, ↓b_wi153, ↓b_l154, ↓b_i154, ↓b_wi154, ↓b_l155, ↓b_j155, ↓b_wj155, ↓b_l156, ↓b_j156, ↓b_wj156, ↓b_l138, ↓b_j138, ↓b_wj138, ↓b_a5, ↓b_a13, ↓b_a44, ↓b_lA, ↓b_aA_0, ↓b_aA_1, ↓b_iA_2, ↓b_wiA_2, ↓b_iA_4, ↓b_wiA_4, ↓b_iA_5, ↓b_wiA_5, ↓b_iA_6, ↓b_wiA_6, ↓b_jA_3, ↓b_wjA_3, ↓b_lT, ↓b_lTc, ↓b_aT, ↓b_iT, ↓b_wiT, ↓b_iTc, ↓b_wiTc, ↓b_lW, ↓b_lWc, ↓b_aW, ↓b_iW, ↓b_wiW, ↓b_jWc, ↓b_wjWc, ↓b_rt, ↓b_ru, ↓b_wt, ↓b_wu, ↓b_0l, ↓b_0, ↓b_1, ↓b_2, m_tk, ↓reduceIte, cond_true, cond_false, Option.bind_some, y_Term_pair, e_Term_pair_0, e_Term_pair_23, ↓bI (t_count h1 h), ↓bI (t_count h1 k), ↓bI (t_shape h1 h), ↓bI (t_shape h1 k), e5, ea, q3, ↓bJ eb, if_true]
    rw [if_pos hn]; rfl
  · have e5 : ¬ nI (sN i) + nI (sN j) ≤ 4 := by rw [nI_add, l_4, nI_leI (by omega) (by omega)]; omega
    simp (maxSteps := 4000000) (disch := first | omega | assumption) only [↓b_ix, ↓b_l3, ↓b_a3_0, ↓b_a3_1, ↓b_a3_2, ↓b_l4, ↓b_a4_0, ↓b_a4_1, ↓b_a4_2, ↓b_a4_3, ↓b_l129, ↓b_a129_0, ↓b_l130, ↓b_i130_1, ↓b_wi130_1, ↓b_l133, ↓b_a133_0, ↓b_a133_1, ↓b_i133_2, ↓b_wi133_2, ↓b_j133_3, ↓b_wj133_3, ↓b_i133_4, ↓b_wi133_4, ↓b_l134, ↓b_a134_0, ↓b_a134_1, ↓b_i134_2, ↓b_wi134_2, ↓b_i134_3, ↓b_wi134_3, ↓b_l135, ↓b_i135_1, ↓b_wi135_1, ↓b_l139, ↓b_a139_0, ↓b_a139_1, ↓b_a139_2, ↓b_a139_3, ↓b_a139_4, ↓b_a139_5, ↓b_a139_6, ↓b_a139_7, ↓b_a139_8, ↓b_a139_9, ↓b_a139_10, ↓b_a139_11, ↓b_a139_12, ↓b_a139_13, ↓b_a139_14, ↓b_i139_15, ↓b_wi139_15, ↓b_i139_16, ↓b_wi139_16, ↓b_i139_17, ↓b_wi139_17, ↓b_a139_18, ↓b_i139_19, ↓b_wi139_19, ↓b_i139_20, ↓b_wi139_20, ↓b_i139_21, ↓b_wi139_21, ↓b_l6, ↓b_i6, ↓b_wi6, ↓b_l140, ↓b_i140, ↓b_wi140, ↓b_l141, ↓b_i141, ↓b_wi141, ↓b_l142, ↓b_i142, ↓b_wi142, ↓b_l143, ↓b_i143, ↓b_wi143, ↓b_l144, ↓b_j144, ↓b_wj144, ↓b_l145, ↓b_j145, ↓b_wj145, ↓b_l146, ↓b_i146, ↓b_wi146, ↓b_l147, ↓b_i147, ↓b_wi147, ↓b_l148, ↓b_i148, ↓b_wi148, ↓b_l149, ↓b_i149, ↓b_wi149, ↓b_l150, ↓b_j150, ↓b_wj150, ↓b_l151, ↓b_i151, ↓b_wi151, ↓b_l152, ↓b_j152, ↓b_wj152, ↓b_l153, ↓b_i153, ↓b_wi153, ↓b_l154, ↓b_i154, ↓b_wi154, ↓b_l155, ↓b_j155, ↓b_wj155, ↓b_l156, ↓b_j156, ↓b_wj156, ↓b_l138, ↓b_j138, ↓b_wj138, ↓b_a5, ↓b_a13, ↓b_a44, ↓b_lA, ↓b_aA_0, ↓b_aA_1, ↓b_iA_2, ↓b_wiA_2, ↓b_iA_4, ↓b_wiA_4, ↓b_iA_5, ↓b_wiA_5, ↓b_iA_6, ↓b_wiA_6, ↓b_jA_3, ↓b_wjA_3, ↓b_lT, ↓b_lTc, ↓b_aT, ↓b_iT, ↓b_wiT, ↓b_iTc, ↓b_wiTc, ↓b_lW, ↓b_lWc, ↓b_aW, ↓b_iW, ↓b_wiW, ↓b_jWc, ↓b_wjWc, ↓b_rt, ↓b_ru, ↓b_wt, ↓b_wu, ↓b_0l, ↓b_0, ↓b_1, ↓b_2, m_tk, ↓reduceIte, cond_true, cond_false, Option.bind_some, y_Term_pair, e_Term_pair_0, e_Term_pair_23, ↓bI (t_count h1 h), ↓bI (t_count h1 k), e5, if_false]
    rw [if_neg hn]
def told (a : Nat) : Int32 := nI (fF a) - 1000
theorem told_1000 (a : Nat) : told a + 1000 = nI (fF a) := by unfold told; rw [Int32.sub_add_cancel]
theorem tC_0 (a : Nat) : tC 0 [a] = fF a := by simp [tC, cL, sD]
theorem tM_0 (a : Nat) : tM 0 [a] = 1 + 1024 * a := by simp [tM, mL, sN, sB]
theorem tv_0 {a : Nat} (h : a < 2013) : tv 0 [a] := ⟨by decide, rfl, fun x hx => by rw [List.mem_singleton] at hx; omega⟩
theorem tv_0l (h : tv 0 l) : ∃ a, a < 2013 ∧ l = [a] := by
  obtain ⟨_, h2, h3⟩ := h
  match l, h2 with
  | [a], _ => exact ⟨a, h3 a List.mem_cons_self, rfl⟩
theorem t_ofLeaf (hd : 1 ≤ d) {a : Nat} (ha : a < 2013) : am_Y d 42 [.int (told a)] M = some (.inl (some (.long (lN (tC 0 [a])))), M) := by
  obtain ⟨d, rfl⟩ : ∃ e, d = e + 1 := ⟨d - 1, by omega⟩
  have := fF_lt ha
  rw [y_Term_ofLeaf, e_Term_ofLeaf_0, told_1000, nI_l (by omega), tC_0]
theorem t_leafAt (hd : 1 ≤ d) (h : tv i l) (hk : k < 4) : am_Y d 48 [.long (lN (tC i l)), .int (nI k)] M = some (.inl (some (.int (if k < sN i then told (l.getD k 0) else -5000))), M) := by
  obtain ⟨d, rfl⟩ : ∃ e, d = e + 1 := ⟨d - 1, by omega⟩
  have hf := fd_lt (k := k) h
  have hC := tC_lt h
  have e : (((lN (tC i l)).toUInt64 >>> ((nI k * 12).toInt64.toUInt64 &&& Int64.toUInt64 63)).toInt64).toInt32 &&& 4095 = nI (if k < sN i then fF (l.getD k 0) else 0) := by
    rw [l_12, nI_mul, lN_ushr (by omega) (by omega), lN_i, show (4095 : Int32) = nI 4095 from rfl, nI_and, and4095, tC_fd h hk]
  rw [y_Term_leafAt, e_Term_leafAt_0, e, l_0]
  simp (disch := omega) only [nI_eq]
  by_cases hn : k < sN i
  · have := fF_pos (l.getD k 0)
    rw [if_pos hn, if_pos hn, if_pos (by omega), e_Term_leafAt_22, e_Term_leafAt_27]; rfl
  · rw [if_neg hn, if_neg hn, if_neg (by omega), e_Term_leafAt_27]
theorem t_leafAt0 (hd : 1 ≤ d) (h : tv i l) : am_Y d 48 [.long (lN (tC i l)), .int 0] M = some (.inl (some (.int (told (l.getD 0 0)))), M) := by
  have := t_leafAt (M := M) hd h (show 0 < 4 by decide)
  rw [if_pos (show 0 < sN i from sN_pos i h.1)] at this; exact this
theorem sD_ge : ∀ i, i < 9 → ¬ i = 0 → 11 ≤ sD i := by decide
theorem t_isPair (hd : 1 ≤ d) (h : tv i l) : am_Y d 50 [.long (lN (tC i l))] M = some (.inl (some (.int (m_b (decide (¬ i = 0))))), M) := by
  obtain ⟨d, rfl⟩ : ∃ e, d = e + 1 := ⟨d - 1, by omega⟩
  have hC := tC_lt h
  rw [y_Term_isPair, e_Term_isPair_0, j_4095]
  simp (disch := omega) only [lN_cmple]
  by_cases hi : i = 0
  · subst hi
    obtain ⟨a, ha, rfl⟩ := tv_0l h
    have := fF_lt ha
    rw [tC_0, if_pos (by omega), e_Term_isPair_12, e_Term_isPair_13, ft3_0]; rfl
  · have := sD_ge i h.1 hi
    rw [if_neg (by unfold tC; omega), e_Term_isPair_13, ft3_1]; simp [hi, m_b]
def isN (i : Nat) (l : List Nat) : Bool := decide (i = 0 ∧ l.getD 0 0 < 1999)
def isR (i : Nat) (l : List Nat) : Bool := decide (i = 0 ∧ 2007 ≤ l.getD 0 0)
theorem t_isInt (hd : 1 ≤ d) (h : tv i l) : am_Y d 54 [.long (lN (tC i l))] M = some (.inl (some (.int (m_b (isN i l)))), M) := by
  obtain ⟨d, rfl⟩ : ∃ e, d = e + 1 := ⟨d - 1, by omega⟩
  have hC := tC_lt h
  rw [y_Term_isInt, e_Term_isInt_0, j_1999]
  simp (disch := omega) only [lN_cmpgt]
  by_cases hi : i = 0
  · subst hi
    obtain ⟨a, ha, rfl⟩ := tv_0l h
    rw [tC_0]
    by_cases hb : a < 1999
    · rw [if_neg (by unfold fF; rw [if_pos hb]; omega), e_Term_isInt_13, ft3_1]; simp [isN, hb, m_b]
    · rw [if_pos (by unfold fF; rw [if_neg hb]; split <;> omega), e_Term_isInt_12, e_Term_isInt_13, ft3_0]; simp [isN, hb, m_b]
  · have := sD_ge i h.1 hi
    rw [if_pos (by unfold tC; omega), e_Term_isInt_12, e_Term_isInt_13, ft3_0]; simp [isN, hi, m_b]
theorem j_4006 : (4006 : Int64) = lN 4006 := rfl
theorem t_isActor (hd : 1 ≤ d) (h : tv i l) : am_Y d 55 [.long (lN (tC i l))] M = some (.inl (some (.int (m_b (isR i l)))), M) := by
  obtain ⟨d, rfl⟩ : ∃ e, d = e + 1 := ⟨d - 1, by omega⟩
  have hC := tC_lt h
  rw [y_Term_isActor, e_Term_isActor_0, j_4000, j_4006]
  simp (disch := omega) only [lN_cmplt, lN_cmpge]
  by_cases hi : i = 0
  · subst hi
    obtain ⟨a, ha, rfl⟩ := tv_0l h
    have h9 := fF_lt ha
    rw [tC_0]
    by_cases hb : 2007 ≤ a
    · rw [if_neg (by unfold fF; rw [if_neg (by omega), if_neg (by omega)]; omega), if_neg (by unfold fF; rw [if_neg (by omega), if_neg (by omega)]; omega), e_Term_isActor_21, ft3_1]; simp [isR, hb, m_b]
    · rw [if_pos (by unfold fF; split <;> (try split) <;> omega), e_Term_isActor_20, e_Term_isActor_21, ft3_0]; simp [isR, hb, m_b]
  · have := sD_ge i h.1 hi
    rw [if_neg (by unfold tC; omega), if_pos (by unfold tC; omega), e_Term_isActor_20, e_Term_isActor_21, ft3_0]; simp [isR, hi, m_b]
/-- the eighths that the first leaves fill -/
def sE (i k : Nat) : Nat := ([[0, 8, 8, 8, 8], [0, 4, 8, 8, 8], [0, 2, 4, 8, 8], [0, 4, 6, 8, 8], [0, 1, 2, 4, 8], [0, 2, 3, 4, 8], [0, 2, 4, 6, 8], [0, 4, 5, 6, 8], [0, 4, 6, 7, 8]].getD i []).getD k 0
theorem sE_s : ∀ i, i < 9 → ∀ k, k < 4 → k < sN i → nI (sE i k) + (8 >>> (((nI (sD i) / m_tens.getD (sN i - (k + 1)) 0) - (nI (sD i) / m_tens.getD (sN i - (k + 1)) 0) / 10 * 10) &&& 31)) = nI (sE i (k + 1)) := by decide +kernel
theorem sE_k : ∀ i, i < 9 → ∀ k, k < 4 → (¬ i = 0 ∧ k < sN (sL i)) → sE i k < 4 := by decide +kernel
theorem sE_r : ∀ i, i < 9 → ¬ i = 0 → sN (sL i) < sN i ∧ sN (sL i) + sN (sR i) = sN i ∧ 1 ≤ sN (sL i) ∧ sL i < 9 ∧ sR i < 9 := by decide +kernel
theorem sE_l : ∀ i, i < 9 → ¬ i = 0 → ∀ k, k < 4 → k < sN (sL i) → (sE i k < 4) ∧ sN (sL i) < sN i ∧ sN (sL i) + sN (sR i) = sN i ∧ 1 ≤ sN (sL i) ∧ sL i < 9 ∧ sR i < 9 := fun i h1 h2 k h3 h4 => ⟨sE_k i h1 k h3 ⟨h2, h4⟩, sE_r i h1 h2⟩
theorem n10_0 : ((10 : Nat) = 0) = False := eq_false (by decide)
theorem n2_0 : ((2 : Nat) = 0) = False := eq_false (by decide)
theorem sE_g : ∀ i, i < 9 → ¬ i = 0 → 4 ≤ sE i (sN (sL i)) := by decide +kernel
theorem tens0 : ∀ k, k < 5 → (m_tens.getD k 0 = 0) = False := by
  intro k hk; exact eq_false (by revert k; decide +kernel)
theorem i10_0 : ((10 : Int32) = 0) = False := eq_false (by decide)
theorem nI_sub {a b : Nat} (h : b ≤ a) : nI a - nI b = nI (a - b) := by
  obtain ⟨q, rfl⟩ : ∃ q, a = b + q := ⟨a - b, by omega⟩
  rw [← nI_add, Int32.add_comm, Int32.add_sub_cancel]; congr 1; omega
theorem t_cll (hd : 1 ≤ d) (h : tv i l) (hi : ¬ i = 0) : ∀ q k, q + (k + 1) = sN (sL i) → am_X (am_Y d) k_Term_countLeftLeaves 10 [(0, .long (lN (tC i l))), (2, .int (nI (sN i))), (3, .int (nI (sE i k))), (4, .int (nI (k + 1)))] [] (mM xs f g t u c s) = some (.inl (some (.int (nI (sN (sL i))))), mM xs f g t u c s)
  | 0, k, hq => by
    have h4 := sN_le i
    have hb := sE_l i h.1 hi k (by have := sN_le (sL i); omega) (by omega)
    have hg := sE_g i h.1 hi
    have e1 : ¬ nI (sN i) ≤ nI (k + 1) := by rw [nI_leI (by omega) (by omega)]; omega
    have e2 := sE_s i h.1 k (by omega) (by omega)
    have e4 : ¬ nI (sE i (k + 1)) < 4 := by
      have : ∀ i, i < 9 → ∀ k, k < 5 → sE i k < 9 := by decide +kernel
      have := this i h.1 (k + 1) (by omega)
      rw [l_4, nI_ltI (by omega) (by omega), show k + 1 = sN (sL i) by omega]; omega
    rw [e_Term_countLeftLeaves_10]
    simp (maxSteps := 4000000) (disch := first | omega | assumption) only [↓b_ix, ↓b_l3, ↓b_a3_0, ↓b_a3_1, ↓b_a3_2, ↓b_l4, ↓b_a4_0, ↓b_a4_1, ↓b_a4_2, ↓b_a4_3, ↓b_l129, ↓b_a129_0, ↓b_l130, ↓b_i130_1, ↓b_wi130_1, ↓b_l133, ↓b_a133_0, ↓b_a133_1, ↓b_i133_2, ↓b_wi133_2, ↓b_j133_3, ↓b_wj133_3, ↓b_i133_4, ↓b_wi133_4, ↓b_l134, ↓b_a134_0, ↓b_a134_1, ↓b_i134_2, ↓b_wi134_2, ↓b_i134_3, ↓b_wi134_3, ↓b_l135, ↓b_i135_1, ↓b_wi135_1, ↓b_l139, ↓b_a139_0, ↓b_a139_1, ↓b_a139_2, ↓b_a139_3, ↓b_a139_4, ↓b_a139_5, ↓b_a139_6, ↓b_a139_7, ↓b_a139_8, ↓b_a139_9, ↓b_a139_10, ↓b_a139_11, ↓b_a139_12, ↓b_a139_13, ↓b_a139_14, ↓b_i139_15, ↓b_wi139_15, ↓b_i139_16, ↓b_wi139_16, ↓b_i139_17, ↓b_wi139_17, ↓b_a139_18, ↓b_i139_19, ↓b_wi139_19, ↓b_i139_20, ↓b_wi139_20, ↓b_i139_21, ↓b_wi139_21, ↓b_l6, ↓b_i6, ↓b_wi6, ↓b_l140, ↓b_i140, ↓b_wi140, ↓b_l141, ↓b_i141, ↓b_wi141, ↓b_l142, ↓b_i142, ↓b_wi142, ↓b_l143, ↓b_i143, ↓b_wi143, ↓b_l144, ↓b_j144, ↓b_wj144, ↓b_l145, ↓b_j145, ↓b_wj145, ↓b_l146, ↓b_i146, ↓b_wi146, ↓b_l147, ↓b_i147, ↓b_wi147, ↓b_l148, ↓b_i148, ↓b_wi148, ↓b_l149, ↓b_i149, ↓b_wi149, ↓b_l150, ↓b_j150, ↓b_wj150, ↓b_l151, ↓b_i151, ↓b_wi151, ↓b_l152, ↓b_j152, ↓b_wj152, ↓b_l153, ↓b_i153, ↓b_wi153, ↓b_l154, ↓b_i154, ↓b_wi154, ↓b_l155, ↓b_j155, ↓b_wj155, ↓b_l156, ↓b_j156, ↓b_wj156, ↓b_l138, ↓b_j138, ↓b_wj138, ↓b_a5, ↓b_a13, ↓b_a44, ↓b_lA, ↓b_aA_0, ↓b_aA_1, ↓b_iA_2, ↓b_wiA_2, ↓b_iA_4, ↓b_wiA_4, ↓b_iA_5, ↓b_wiA_5, ↓b_iA_6, ↓b_wiA_6, ↓b_jA_3, ↓b_wjA_3, ↓b_lT, ↓b_lTc, ↓b_aT, ↓b_iT, ↓b_wiT, ↓b_iTc, ↓b_wiTc, ↓b_lW, ↓b_lWc, ↓b_aW, ↓b_iW, ↓b_wiW, ↓b_jWc, ↓b_wjWc, ↓b_rt, ↓b_ru, ↓b_wt, ↓b_wu, ↓b_0l, ↓b_0, ↓b_1, ↓b_2, m_tk, ↓reduceIte, cond_true, cond_false, Option.bind_some, ↓bI (t_shape hd h), e1, nI_sub, tens0, n10_0, e2, e4, if_false]
    rw [show k + 1 = sN (sL i) by omega]
  | q + 1, k, hq => by
    have h4 := sN_le i
    have hb := sE_l i h.1 hi k (by have := sN_le (sL i); omega) (by omega)
    have hb2 := sE_l i h.1 hi (k + 1) (by have := sN_le (sL i); omega) (by omega)
    have e1 : ¬ nI (sN i) ≤ nI (k + 1) := by rw [nI_leI (by omega) (by omega)]; omega
    have e2 := sE_s i h.1 k (by omega) (by omega)
    have e4 : nI (sE i (k + 1)) < 4 := by rw [l_4, nI_ltI (by omega) (by omega)]; omega
    have ih := t_cll hd h hi q (k + 1) (by omega)
    rw [e_Term_countLeftLeaves_10]
    simp (maxSteps := 4000000) (disch := first | omega | assumption) only [↓b_ix, ↓b_l3, ↓b_a3_0, ↓b_a3_1, ↓b_a3_2, ↓b_l4, ↓b_a4_0, ↓b_a4_1, ↓b_a4_2, ↓b_a4_3, ↓b_l129, ↓b_a129_0, ↓b_l130, ↓b_i130_1, ↓b_wi130_1, ↓b_l133, ↓b_a133_0, ↓b_a133_1, ↓b_i133_2, ↓b_wi133_2, ↓b_j133_3, ↓b_wj133_3, ↓b_i133_4, ↓b_wi133_4, ↓b_l134, ↓b_a134_0, ↓b_a134_1, ↓b_i134_2, ↓b_wi134_2, ↓b_i134_3, ↓b_wi134_3, ↓b_l135, ↓b_i135_1, ↓b_wi135_1, ↓b_l139, ↓b_a139_0, ↓b_a139_1, ↓b_a139_2, ↓b_a139_3, ↓b_a139_4, ↓b_a139_5, ↓b_a139_6, ↓b_a139_7, ↓b_a139_8, ↓b_a139_9, ↓b_a139_10, ↓b_a139_11, ↓b_a139_12, ↓b_a139_13, ↓b_a139_14, ↓b_i139_15, ↓b_wi139_15, ↓b_i139_16, ↓b_wi139_16, ↓b_i139_17, ↓b_wi139_17, ↓b_a139_18, ↓b_i139_19, ↓b_wi139_19, ↓b_i139_20, ↓b_wi139_20, ↓b_i139_21, ↓b_wi139_21, ↓b_l6, ↓b_i6, ↓b_wi6, ↓b_l140, ↓b_i140, ↓b_wi140, ↓b_l141, ↓b_i141, ↓b_wi141, ↓b_l142, ↓b_i142, ↓b_wi142, ↓b_l143, ↓b_i143, ↓b_wi143, ↓b_l144, ↓b_j144, ↓b_wj144, ↓b_l145, ↓b_j145, ↓b_wj145, ↓b_l146, ↓b_i146, ↓b_wi146, ↓b_l147, ↓b_i147, ↓b_wi147, ↓b_l148, ↓b_i148, ↓b_wi148, ↓b_l149, ↓b_i149, ↓b_wi149, ↓b_l150, ↓b_j150, ↓b_wj150, ↓b_l151, ↓b_i151, ↓b_wi151, ↓b_l152, ↓b_j152, ↓b_wj152, ↓b_l153, ↓b_i153, ↓b_wi153, ↓b_l154, ↓b_i154, ↓b_wi154, ↓b_l155, ↓b_j155, ↓b_wj155, ↓b_l156, ↓b_j156, ↓b_wj156, ↓b_l138, ↓b_j138, ↓b_wj138, ↓b_a5, ↓b_a13, ↓b_a44, ↓b_lA, ↓b_aA_0, ↓b_aA_1, ↓b_iA_2, ↓b_wiA_2, ↓b_iA_4, ↓b_wiA_4, ↓b_iA_5, ↓b_wiA_5, ↓b_iA_6, ↓b_wiA_6, ↓b_jA_3, ↓b_wjA_3, ↓b_lT, ↓b_lTc, ↓b_aT, ↓b_iT, ↓b_wiT, ↓b_iTc, ↓b_wiTc, ↓b_lW, ↓b_lWc, ↓b_aW, ↓b_iW, ↓b_wiW, ↓b_jWc, ↓b_wjWc, ↓b_rt, ↓b_ru, ↓b_wt, ↓b_wu, ↓b_0l, ↓b_0, ↓b_1, ↓b_2, m_tk, ↓reduceIte, cond_true, cond_false, Option.bind_some, e_Term_countLeftLeaves_0, e_Term_countLeftLeaves_50, e_Term_countLeftLeaves_56, ↓bI (t_shape hd h), e1, nI_sub, tens0, n10_0, e2, e4, if_false, if_true, nI_1, ih]
theorem t_cl (hd : 2 ≤ d) (h : tv i l) (hi : ¬ i = 0) : am_Y d 52 [.long (lN (tC i l))] (mM xs f g t u c s) = some (.inl (some (.int (nI (sN (sL i))))), mM xs f g t u c s) := by
  obtain ⟨d, rfl⟩ : ∃ e, d = e + 1 := ⟨d - 1, by omega⟩
  have h0 : 1 ≤ sN (sL i) := by
    have : ∀ i, i < 9 → ¬ i = 0 → 1 ≤ sN (sL i) := by decide
    exact this i h.1 hi
  have := t_cll (xs := xs) (f := f) (g := g) (t := t) (u := u) (c := c) (s := s) (show 1 ≤ d by omega) h hi (sN (sL i) - 1) 0 (by omega)
  rw [show sE i 0 = 0 from (by have : ∀ i, i < 9 → sE i 0 = 0 := by decide
                               exact this i h.1)] at this
  rw [y_Term_countLeftLeaves, e_Term_countLeftLeaves_0, bI (t_count (show 1 ≤ d by omega) h)]
  exact this
theorem sLR : ∀ i, i < 9 → ¬ i = 0 → sL i < 9 ∧ sR i < 9 ∧ sN (sL i) + sN (sR i) = sN i ∧ 1 ≤ sN (sL i) ∧ 1 ≤ sN (sR i) ∧ sP (sL i) (sR i) = i ∧ nI (sD i) / m_tens.getD (sN (sR i)) 0 - m_deep.getD (sN (sL i)) 0 = nI (sD (sL i)) ∧ (nI (sD i) - nI (sD i) / m_tens.getD (sN (sR i)) 0 * m_tens.getD (sN (sR i)) 0) - m_deep.getD (sN (sR i)) 0 = nI (sD (sR i)) := by decide +kernel
theorem tv_left (h : tv i l) (hi : ¬ i = 0) : tv (sL i) (l.take (sN (sL i))) := by
  obtain ⟨q1, q2, q3, q4, q5, _⟩ := sLR i h.1 hi
  exact ⟨q1, by rw [List.length_take, h.2.1]; omega, fun a ha => h.2.2 a (List.mem_of_mem_take ha)⟩
theorem tv_right (h : tv i l) (hi : ¬ i = 0) : tv (sR i) (l.drop (sN (sL i))) := by
  obtain ⟨q1, q2, q3, q4, q5, _⟩ := sLR i h.1 hi
  exact ⟨q2, by rw [List.length_drop, h.2.1]; omega, fun a ha => h.2.2 a (List.mem_of_mem_drop ha)⟩
theorem t_left (hd : 3 ≤ d) (h : tv i l) (hi : ¬ i = 0) : am_Y d 51 [.long (lN (tC i l))] (mM xs f g t u c s) = some (.inl (some (.long (lN (tC (sL i) (l.take (sN (sL i))))))), mM xs f g t u c s) := by
  obtain ⟨d, rfl⟩ : ∃ e, d = e + 1 := ⟨d - 1, by omega⟩
  obtain ⟨q1, q2, q3, q4, q5, q6, q7, q8⟩ := sLR i h.1 hi
  have h4 := sN_le i
  have hC := tC_lt h
  have tl := tv_left h hi
  have ea : lN (tC i l) &&& ((1 <<< ((nI (sN (sL i)) * 12).toInt64 &&& 63)) - 1) = lN (cL (l.take (sN (sL i)))) := by
    have hp : 1 ≤ 4096 ^ sN (sL i) := Nat.pow_pos (by decide)
    rw [j_1, l_12, nI_mul, lN_shl _ (by omega), Nat.shiftLeft_eq, Nat.one_mul, pow12, lN_sub hp, lN_and, ← pow12, and_m, pow12, ← cL_mod h.2.2]
    congr 1
    unfold tC
    rw [show 281474976710656 * sD i = 4096 ^ sN (sL i) * (4096 ^ (4 - sN (sL i)) * sD i) by rw [← Nat.mul_assoc, ← Nat.pow_add, show sN (sL i) + (4 - sN (sL i)) = 4 by omega], Nat.add_mul_mod_self_left]
  have h1 : 1 ≤ d := by omega
  have es : nI (sN i) - nI (sN (sL i)) = nI (sN (sR i)) := by rw [nI_sub (by omega)]; congr 1; omega
  simp (maxSteps := 4000000) (disch := first | omega | assumption) only [↓b_ix, ↓b_l3, ↓b_a3_0, ↓b_a3_1, ↓b_a3_2, ↓b_l4, ↓b_a4_0, ↓b_a4_1, ↓b_a4_2, ↓b_a4_3, ↓b_l129, ↓b_a129_0, ↓b_l130, ↓b_i130_1, ↓b_wi130_1, ↓b_l133, ↓b_a133_0, ↓b_a133_1, ↓b_i133_2, ↓b_wi133_2, ↓b_j133_3, ↓b_wj133_3, ↓b_i133_4, ↓b_wi133_4, ↓b_l134, ↓b_a134_0, ↓b_a134_1, ↓b_i134_2, ↓b_wi134_2, ↓b_i134_3, ↓b_wi134_3, ↓b_l135, ↓b_i135_1, ↓b_wi135_1, ↓b_l139, ↓b_a139_0, ↓b_a139_1, ↓b_a139_2, ↓b_a139_3, ↓b_a139_4, ↓b_a139_5, ↓b_a139_6, ↓b_a139_7, ↓b_a139_8, ↓b_a139_9, ↓b_a139_10, ↓b_a139_11, ↓b_a139_12, ↓b_a139_13, ↓b_a139_14, ↓b_i139_15, ↓b_wi139_15, ↓b_i139_16, ↓b_wi139_16, ↓b_i139_17, ↓b_wi139_17, ↓b_a139_18, ↓b_i139_19, ↓b_wi139_19, ↓b_i139_20, ↓b_wi139_20, ↓b_i139_21, ↓b_wi139_21, ↓b_l6, ↓b_i6, ↓b_wi6, ↓b_l140, ↓b_i140, ↓b_wi140, ↓b_l141, ↓b_i141, ↓b_wi141, ↓b_l142, ↓b_i142, ↓b_wi142, ↓b_l143, ↓b_i143, ↓b_wi143, ↓b_l144, ↓b_j144, ↓b_wj144, ↓b_l145, ↓b_j145, ↓b_wj145, ↓b_l146, ↓b_i146, ↓b_wi146, ↓b_l147, ↓b_i147, ↓b_wi147, ↓b_l148, ↓b_i148, ↓b_wi148, ↓b_l149, ↓b_i149, ↓b_wi149, ↓b_l150, ↓b_j150, ↓b_wj150, ↓b_l151, ↓b_i151, ↓b_wi151, ↓b_l152, ↓b_j152, ↓b_wj152, ↓b_l153, ↓b_i153, ↓b_wi153, ↓b_l154, ↓b_i154, ↓b_wi154, ↓b_l155, ↓b_j155, ↓b_wj155, ↓b_l156, ↓b_j156, ↓b_wj156, ↓b_l138, ↓b_j138, ↓b_wj138, ↓b_a5, ↓b_a13, ↓b_a44, ↓b_lA, ↓b_aA_0, ↓b_aA_1, ↓b_iA_2, ↓b_wiA_2, ↓b_iA_4, ↓b_wiA_4, ↓b_iA_5, ↓b_wiA_5, ↓b_iA_6, ↓b_wiA_6, ↓b_jA_3, ↓b_wjA_3, ↓b_lT, ↓b_lTc, ↓b_aT, ↓b_iT, ↓b_wiT, ↓b_iTc, ↓b_wiTc, ↓b_lW, ↓b_lWc, ↓b_aW, ↓b_iW, ↓b_wiW, ↓b_jWc, ↓b_wjWc, ↓b_rt, ↓b_ru, ↓b_wt, ↓b_wu, ↓b_0l, ↓b_0, ↓b_1, ↓b_2, m_tk, ↓reduceIte, cond_true, cond_false, Option.bind_some, y_Term_left, e_Term_left_0, ↓bI (t_cl (show 2 ≤ d by omega) h hi), ↓bI (t_count h1 h), ↓bI (t_shape h1 h), es, tens0, ea, q7, ↓bJ (t_build h1 (tv_c tl) (sD_lt _ q1)), if_false]
  rfl
theorem t_right (hd : 3 ≤ d) (h : tv i l) (hi : ¬ i = 0) : am_Y d 53 [.long (lN (tC i l))] (mM xs f g t u c s) = some (.inl (some (.long (lN (tC (sR i) (l.drop (sN (sL i))))))), mM xs f g t u c s) := by
  obtain ⟨d, rfl⟩ : ∃ e, d = e + 1 := ⟨d - 1, by omega⟩
  obtain ⟨q1, q2, q3, q4, q5, q6, q7, q8⟩ := sLR i h.1 hi
  have h4 := sN_le i
  have hC := tC_lt h
  have hc := tv_c h
  have tl := tv_right h hi
  have ea : ((lN (tC i l) &&& 281474976710655).toUInt64 >>> ((nI (sN (sL i)) * 12).toInt64.toUInt64 &&& Int64.toUInt64 63)).toInt64 = lN (cL (l.drop (sN (sL i)))) := by
    rw [j_48, lN_and, and48, tC_lo h, l_12, nI_mul, lN_ushr (by omega) (by omega), Nat.shiftRight_eq_div_pow, pow12, cL_div h.2.2]
  have h1 : 1 ≤ d := by omega
  have es : nI (sN i) - nI (sN (sL i)) = nI (sN (sR i)) := by rw [nI_sub (by omega)]; congr 1; omega
  simp (maxSteps := 4000000) (disch := first | omega | assumption) only [↓b_ix, ↓b_l3, ↓b_a3_0, ↓b_a3_1, ↓b_a3_2, ↓b_l4, ↓b_a4_0, ↓b_a4_1, ↓b_a4_2, ↓b_a4_3, ↓b_l129, ↓b_a129_0, ↓b_l130, ↓b_i130_1, ↓b_wi130_1, ↓b_l133, ↓b_a133_0, ↓b_a133_1, ↓b_i133_2, ↓b_wi133_2, ↓b_j133_3, ↓b_wj133_3, ↓b_i133_4, ↓b_wi133_4, ↓b_l134, ↓b_a134_0, ↓b_a134_1, ↓b_i134_2, ↓b_wi134_2, ↓b_i134_3, ↓b_wi134_3, ↓b_l135, ↓b_i135_1, ↓b_wi135_1, ↓b_l139, ↓b_a139_0, ↓b_a139_1, ↓b_a139_2, ↓b_a139_3, ↓b_a139_4, ↓b_a139_5, ↓b_a139_6, ↓b_a139_7, ↓b_a139_8, ↓b_a139_9, ↓b_a139_10, ↓b_a139_11, ↓b_a139_12, ↓b_a139_13, ↓b_a139_14, ↓b_i139_15, ↓b_wi139_15, ↓b_i139_16, ↓b_wi139_16, ↓b_i139_17, ↓b_wi139_17, ↓b_a139_18, ↓b_i139_19, ↓b_wi139_19, ↓b_i139_20, ↓b_wi139_20, ↓b_i139_21, ↓b_wi139_21, ↓b_l6, ↓b_i6, ↓b_wi6, ↓b_l140, ↓b_i140, ↓b_wi140, ↓b_l141, ↓b_i141, ↓b_wi141, ↓b_l142, ↓b_i142, ↓b_wi142, ↓b_l143, ↓b_i143, ↓b_wi143, ↓b_l144, ↓b_j144, ↓b_wj144, ↓b_l145, ↓b_j145, ↓b_wj145, ↓b_l146, ↓b_i146, ↓b_wi146, ↓b_l147, ↓b_i147, ↓b_wi147, ↓b_l148, ↓b_i148, ↓b_wi148, ↓b_l149, ↓b_i149, ↓b_wi149, ↓b_l150, ↓b_j150, ↓b_wj150, ↓b_l151, ↓b_i151, ↓b_wi151, ↓b_l152, ↓b_j152, ↓b_wj152, ↓b_l153, ↓b_i153, ↓b_wi153, ↓b_l154, ↓b_i154, ↓b_wi154, ↓b_l155, ↓b_j155, ↓b_wj155, ↓b_l156, ↓b_j156, ↓b_wj156, ↓b_l138, ↓b_j138, ↓b_wj138, ↓b_a5, ↓b_a13, ↓b_a44, ↓b_lA, ↓b_aA_0, ↓b_aA_1, ↓b_iA_2, ↓b_wiA_2, ↓b_iA_4, ↓b_wiA_4, ↓b_iA_5, ↓b_wiA_5, ↓b_iA_6, ↓b_wiA_6, ↓b_jA_3, ↓b_wjA_3, ↓b_lT, ↓b_lTc, ↓b_aT, ↓b_iT, ↓b_wiT, ↓b_iTc, ↓b_wiTc, ↓b_lW, ↓b_lWc, ↓b_aW, ↓b_iW, ↓b_wiW, ↓b_jWc, ↓b_wjWc, ↓b_rt, ↓b_ru, ↓b_wt, ↓b_wu, ↓b_0l, ↓b_0, ↓b_1, ↓b_2, m_tk, ↓reduceIte, cond_true, cond_false, Option.bind_some, y_Term_right, e_Term_right_0, ↓bI (t_cl (show 2 ≤ d by omega) h hi), ↓bI (t_count h1 h), ↓bI (t_shape h1 h), es, tens0, ea, q8, ↓bJ (t_build h1 (tv_c tl) (sD_lt _ q2)), if_false]
  rfl
end TS
