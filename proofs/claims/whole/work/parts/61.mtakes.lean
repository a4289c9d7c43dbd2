/-! THE MODEL TRIES A CLAUSE -/
def fQ (f f' : mF) : Prop := ∀ x k, ¬ (x = 139 ∧ (k = 19 ∨ k = 20)) → x ≠ 153 → f' x k = f x k
def gQ (g g' : mG) : Prop := ∀ x k, x ≠ 152 → ¬ (x = 155 ∧ k < 4) → g' x k = g x k
theorem fQ_r (f : mF) : fQ f f := fun _ _ _ _ => rfl
theorem gQ_r (g : mG) : gQ g g := fun _ _ _ _ => rfl
theorem fQ_t {f f' f'' : mF} (h : fQ f f') (h' : fQ f' f'') : fQ f f'' := fun x k a b => (h' x k a b).trans (h x k a b)
theorem gQ_t {f f' f'' : mG} (h : gQ f f') (h' : gQ f' f'') : gQ f f'' := fun x k a b => (h' x k a b).trans (h x k a b)
theorem fQ_N {f f' : mF} (h : fN f f') : fQ f f' := fun x k a b => h x k (by omega)
theorem gQ_N {f f' : mG} (h : gN f f') : gQ f f' := fun x k a b => h x k (by omega)
theorem fQ_M {f f' : mF} (h : fM 0 f f') : fQ f f' := fun x k a b => h x k a (by omega)
theorem gQ_M {f f' : mG} (h : gM 0 f f') : gQ f f' := fun x k a b => h x k (by omega)
theorem fQ_u {f f' : mF} {k : Nat} {v : Int32} (h : fQ f f') (hk : k = 19 ∨ k = 20) : fQ f (m_u f' 139 k v) := fun x j a b => by rw [m_un (by omega)]; exact h x j a b
theorem tX_Q {B n : Nat} {w : Nat → Int32} {f f' : mF} (h : tX f B n w) (hf : fQ f f') : tX f' B n w := ⟨h.1, fun k hk => by rw [hf _ _ (by omega) (by omega)]; exact h.2 k hk⟩
section MH
variable {xs : List Int32} {t u c s d n B self : Nat} {w : Nat → Int32} {va : Nat → sTm}
theorem m_trail {g : mG} {j : Nat} (hj : j < n) (hne : ¬ w j = 41) : ∀ m q {f : mF}, q + m = j → tX f B n w → f 139 19 = nI (B + q) → (∀ x, q ≤ x → x < j → w x = 41) → am_X (am_Y d) k_Md_fits 226 [(0, .ref 139)] [] (mM xs f g t u c s) = some (.inl (some (.int 1)), mM xs (m_u f 139 19 (nI (B + j))) g t u c s)
  | 0, q, f, h1, hx, hat, hs => by
    have : q = j := by omega
    subst this
    have hB := hx.1
    have w0 := hx.2 q hj
    rw [m_us hat.symm, e_Md_fits_226]
    simp (maxSteps := 4000000) (disch := first | omega | assumption) only [↓b_ix, ↓b_l3, ↓b_a3_0, ↓b_a3_1, ↓b_a3_2, ↓b_l4, ↓b_a4_0, ↓b_a4_1, ↓b_a4_2, ↓b_a4_3, ↓b_l129, ↓b_a129_0, ↓b_l130, ↓b_i130_1, ↓b_wi130_1, ↓b_l133, ↓b_a133_0, ↓b_a133_1, ↓b_i133_2, ↓b_wi133_2, ↓b_j133_3, ↓b_wj133_3, ↓b_i133_4, ↓b_wi133_4, ↓b_l134, ↓b_a134_0, ↓b_a134_1, ↓b_i134_2, ↓b_wi134_2, ↓b_i134_3, ↓b_wi134_3, ↓b_l135, ↓b_i135_1, ↓b_wi135_1, ↓b_l139, ↓b_a139_0, ↓b_a139_1, ↓b_a139_2, ↓b_a139_3, ↓b_a139_4, ↓b_a139_5, ↓b_a139_6, ↓b_a139_7, ↓b_a139_8, ↓b_a139_9, ↓b_a139_10, ↓b_a139_11, ↓b_a139_12, ↓b_a139_13, ↓b_a139_14, ↓b_i139_15, ↓b_wi139_15, ↓b_i139_16, ↓b_wi139_16, ↓b_i139_17, ↓b_wi139_17, ↓b_a139_18, ↓b_i139_19, ↓b_wi139_19, ↓b_i139_20, ↓b_wi139_20, ↓b_i139_21, ↓b_wi139_21, ↓b_l6, ↓b_i6, ↓b_wi6, ↓b_l140, ↓b_i140, ↓b_wi140, ↓b_l141, ↓b_i141, ↓b_wi141, ↓b_l142, ↓b_i142, ↓b_wi142, ↓b_l143, ↓b_i143, ↓b_wi143, ↓b_l144, ↓b_j144, ↓b_wj144, ↓b_l145, ↓b_j145, ↓b_wj145, ↓b_l146, ↓b_i146, ↓b_wi146, ↓b_l147, ↓b_i147, ↓b_wi147, ↓b_l148, ↓b_i148, ↓b_wi148, ↓b_l149, ↓b_i149, ↓b_wi149, ↓b_l150, ↓b_j150, ↓b_wj150, ↓b_l151, ↓b_i151, ↓b_wi151, ↓b_l152, ↓b_j152, ↓b_wj152, ↓b_l153, ↓b_i153, ↓b_wi153, ↓b_l154, ↓b_i154, ↓b_wi154, ↓b_l155, ↓b_j155, ↓b_wj155, ↓b_l156, ↓b_j156, ↓b_wj156, ↓b_l138, ↓b_j138, ↓b_wj138, ↓b_a5, ↓b_a13, ↓b_a44, ↓b_lA, ↓b_aA_0, ↓b_aA_1, ↓b_iA_2, ↓b_wiA_2, ↓b_iA_4, ↓b_wiA_4, ↓b_iA_5, ↓b_wiA_5, ↓b_iA_6, ↓b_wiA_6, ↓b_jA_3, ↓b_wjA_3, ↓b_lT, ↓b_lTc, ↓b_aT, ↓b_iT, ↓b_wiT, ↓b_iTc, ↓b_wiTc, ↓b_lW, ↓b_lWc, ↓b_aW, ↓b_iW, ↓b_wiW, ↓b_jWc, ↓b_wjWc, ↓b_rt, ↓b_ru, ↓b_wt, ↓b_wu, ↓b_0l, ↓b_0, ↓b_1, ↓b_2, m_tk, ↓reduceIte, cond_true, cond_false, Option.bind_some, e_Md_fits_253, hat, w0, hne, i_11, i_01, i_1_0, i_0_1, not_true, not_false_eq_true, if_true, if_false, Bool.true_eq_false, Bool.false_eq_true, decide_true, decide_false]
  | m + 1, q, f, h1, hx, hat, hs => by
    have hB := hx.1
    have w0 := hx.2 q (by omega)
    have e := hs q (by omega) (by omega)
    have b1 : nI (B + q) + 1 = nI (B + (q + 1)) := by rw [nI_1, Nat.add_assoc]
    have ih := m_trail (g := g) hj hne m (q + 1) (f := m_u f 139 19 (nI (B + (q + 1)))) (by omega) (tX_N hx (fN_u (fN_r f))) (m_uu _) (fun x a b => hs x (by omega) b)
    rw [m_u2] at ih
    rw [← ih, e_Md_fits_226]
    simp (maxSteps := 4000000) (disch := first | omega | assumption) only [↓b_ix, ↓b_l3, ↓b_a3_0, ↓b_a3_1, ↓b_a3_2, ↓b_l4, ↓b_a4_0, ↓b_a4_1, ↓b_a4_2, ↓b_a4_3, ↓b_l129, ↓b_a129_0, ↓b_l130, ↓b_i130_1, ↓b_wi130_1, ↓b_l133, ↓b_a133_0, ↓b_a133_1, ↓b_i133_2, ↓b_wi133_2, ↓b_j133_3, ↓b_wj133_3, ↓b_i133_4, ↓b_wi133_4, ↓b_l134, ↓b_a134_0, ↓b_a134_1, ↓b_i134_2, ↓b_wi134_2, ↓b_i134_3, ↓b_wi134_3, ↓b_l135, ↓b_i135_1, ↓b_wi135_1, ↓b_l139, ↓b_a139_0, ↓b_a139_1, ↓b_a139_2, ↓b_a139_3, ↓b_a139_4, ↓b_a139_5, ↓b_a139_6, ↓b_a139_7, ↓b_a139_8, ↓b_a139_9, ↓b_a139_10, ↓b_a139_11, ↓b_a139_12, ↓b_a139_13, ↓b_a139_14, ↓b_i139_15, ↓b_wi139_15, ↓b_i139_16, ↓b_wi139_16, ↓b_i139_17, ↓b_wi139_17, ↓b_a139_18, ↓b_i139_19, ↓b_wi139_19, ↓b_i139_20, ↓b_wi139_20, ↓b_i139_21, ↓b_wi139_21, ↓b_l6, ↓b_i6, ↓b_wi6, ↓b_l140, ↓b_i140, ↓b_wi140, ↓b_l141, ↓b_i141, ↓b_wi141, ↓b_l142, ↓b_i142, ↓b_wi142, ↓b_l143, ↓b_i143, ↓b_wi143, ↓b_l144, ↓b_j144, ↓b_wj144, ↓b_l145, ↓b_j145, ↓b_wj145, ↓b_l146, ↓b_i146, ↓b_wi146, ↓b_l147, ↓b_i147, ↓b_wi147, ↓b_l148, ↓b_i148, ↓b_wi148, ↓b_l149, ↓b_i149, ↓b_wi149, ↓b_l150, ↓b_j150, ↓b_wj150, ↓b_l151, ↓b_i151, ↓b_wi151, ↓b_l152, ↓b_j152, ↓b_wj152, ↓b_l153, ↓b_i153, ↓b_wi153, ↓b_l154, ↓b_i154, ↓b_wi154, ↓b_l155, ↓b_j155, ↓b_wj155, ↓b_l156, ↓b_j156, ↓b_wj156, ↓b_l138, ↓b_j138, ↓b_wj138, ↓b_a5, ↓b_a13, ↓b_a44, ↓b_lA, ↓b_aA_0, ↓b_aA_1, ↓b_iA_2, ↓b_wiA_2, ↓b_iA_4, ↓b_wiA_4, ↓b_iA_5, ↓b_wiA_5, ↓b_iA_6, ↓b_wiA_6, ↓b_jA_3, ↓b_wjA_3, ↓b_lT, ↓b_lTc, ↓b_aT, ↓b_iT, ↓b_wiT, ↓b_iTc, ↓b_wiTc, ↓b_lW, ↓b_lWc, ↓b_aW, ↓b_iW, ↓b_wiW, ↓b_jWc, ↓b_wjWc, ↓b_rt, ↓b_ru, ↓b_wt, ↓b_wu, ↓b_0l, ↓b_0, ↓b_1, ↓b_2, m_tk, ↓reduceIte, cond_true, cond_false, Option.bind_some, hat, w0, e, b1, i_11, i_01, i_1_0, i_0_1, not_true, not_false_eq_true, if_true, if_false, Bool.true_eq_false, Bool.false_eq_true, decide_true, decide_false]
theorem m_fits {f : mF} {g : mG} {p j : Nat} {x : sTm} (hd : 5 ≤ d) (hn : n ≤ 60) (hV : ∀ v, v < 6 → vV (va v)) (hX : tv x.1 x.2) (hx : tX f B n w) (hg : ∀ v, v < 6 → g 152 v = mTh (va v)) (h : yp w n 4 p j) (hj : j < n) (hne : ¬ w j = 41) : ∃ f' g', am_Y d 122 [.ref 139, .int (nI (B + p)), .long (mTh x)] (mM xs f g t u c s) = some (.inl (some (.int (m_b (pt w 4 p x va).1))), mM xs f' g' t u c s) ∧ fN f f' ∧ gN g g' ∧ ((pt w 4 p x va).1 = true → f' 139 19 = nI (B + j) ∧ ∀ v, v < 6 → g' 152 v = mTh ((pt w 4 p x va).2.2 v)) := by
  obtain ⟨d, rfl⟩ : ∃ e, d = e + 1 := ⟨d - 1, by omega⟩
  obtain ⟨i, l⟩ := x
  simp only at hX
  have s0 := sS_0 i hX.1
  have hsub : (sS i 0, sT i 0 l) = (i, l) := by
    unfold sT; rw [s0.1, s0.2, List.drop_zero, List.take_of_length_le (by rw [hX.2.1]; exact Nat.le_refl _)]
  have hp := sN_pos i hX.1
  have em : mTh (i, l) = lN (tM i l) := mTh_t (v := (i, l)) hX
  have st : am_Y (d + 1) 122 [.ref 139, .int (nI (B + p)), .long (mTh (i, l))] (mM xs f g t u c s) = am_X (am_Y d) k_Md_fits 14 [(0, .ref 139), (2, .long (lN (tM i l))), (4, .int (nI (0 + 1))), (5, .int (nI 0)), (6, .int (nI (sF i 0)))] [] (mM xs (m_u f 139 19 (nI (B + p))) g t u c s) := by
    rw [em, s0.2]
    simp (maxSteps := 4000000) (disch := first | omega | assumption) only [↓b_ix, ↓b_l3, ↓b_a3_0, ↓b_a3_1, ↓b_a3_2, ↓b_l4, ↓b_a4_0, ↓b_a4_1, ↓b_a4_2, ↓b_a4_3, ↓b_l129, ↓b_a129_0, ↓b_l130, ↓b_i130_1, ↓b_wi130_1, ↓b_l133, ↓b_a133_0, ↓b_a133_1, ↓b_i133_2, ↓b_wi133_2, ↓b_j133_3, ↓b_wj133_3, ↓b_i133_4, ↓b_wi133_4, ↓b_l134, ↓b_a134_0, ↓b_a134_1, ↓b_i134_2, ↓b_wi134_2, ↓b_i134_3, ↓b_wi134_3, ↓b_l135, ↓b_i135_1, ↓b_wi135_1, ↓b_l139, ↓b_a139_0, ↓b_a139_1, ↓b_a139_2, ↓b_a139_3, ↓b_a139_4, ↓b_a139_5, ↓b_a139_6, ↓b_a139_7, ↓b_a139_8, ↓b_a139_9, ↓b_a139_10, ↓b_a139_11, ↓b_a139_12, ↓b_a139_13, ↓b_a139_14, ↓b_i139_15, ↓b_wi139_15, ↓b_i139_16, ↓b_wi139_16, ↓b_i139_17, ↓b_wi139_17, ↓b_a139_18, ↓b_i139_19, ↓b_wi139_19, ↓b_i139_20, ↓b_wi139_20, ↓b_i139_21, ↓b_wi139_21, ↓b_l6, ↓b_i6, ↓b_wi6, ↓b_l140, ↓b_i140, ↓b_wi140, ↓b_l141, ↓b_i141, ↓b_wi141, ↓b_l142, ↓b_i142, ↓b_wi142, ↓b_l143, ↓b_i143, ↓b_wi143, ↓b_l144, ↓b_j144, ↓b_wj144, ↓b_l145, ↓b_j145, ↓b_wj145, ↓b_l146, ↓b_i146, ↓b_wi146, ↓b_l147, ↓b_i147, ↓b_wi147, ↓b_l148, ↓b_i148, ↓b_wi148, ↓b_l149, ↓b_i149, ↓b_wi149, ↓b_l150, ↓b_j150, ↓b_wj150, ↓b_l151, ↓b_i151, ↓b_wi151, ↓b_l152, ↓b_j152, ↓b_wj152, ↓b_l153, ↓b_i153, ↓b_wi153, ↓b_l154, ↓b_i154, ↓b_wi154, ↓b_l155, ↓b_j155, ↓b_wj155, ↓b_l156, ↓b_j156, ↓b_wj156, ↓b_l138, ↓b_j138, ↓b_wj138, ↓b_a5, ↓b_a13, ↓b_a44, ↓b_lA, ↓b_aA_0, ↓b_aA_1, ↓b_iA_2, ↓b_wiA_2, ↓b_iA_4, ↓b_wiA_4, ↓b_iA_5, ↓b_wiA_5, ↓b_iA_6, ↓b_wiA_6, ↓b_jA_3, ↓b_wjA_3, ↓b_lT, ↓b_lTc, ↓b_aT, ↓b_iT, ↓b_wiT, ↓b_iTc, ↓b_wiTc, ↓b_lW, ↓b_lWc, ↓b_aW, ↓b_iW, ↓b_wiW, ↓b_jWc, ↓b_wjWc, ↓b_rt, ↓b_ru, ↓b_wt, ↓b_wu, ↓b_0l, ↓b_0, ↓b_1, ↓b_2, m_tk, ↓reduceIte, cond_true, cond_false, Option.bind_some, y_Md_fits, e_Md_fits_0, e_Md_fits_44, e_Md_fits_57, e_Md_fits_75, e_Md_fits_94, e_Md_fits_128, e_Md_fits_132, e_Md_fits_133, e_Md_fits_155, e_Md_fits_182, e_Md_fits_199, e_Md_fits_223, e_Md_fits_226, e_Md_fits_253]
    rfl
  obtain ⟨m1, m2⟩ := m_fitE (xs := xs) (t := t) (u := u) (c := c) (s := s) (show 4 ≤ d by omega) hn hX 4 p p j 0 0 (f := m_u f 139 19 (nI (B + p))) (g := g) (va := va) (by decide) hV (tX_N hx (fN_u (fN_r f))) hg (by omega) h (Nat.le_refl _) (fun x a b => absurd b (by omega)) (m_uu _)
  rw [hsub] at m1 m2
  by_cases b : (pt w 4 p (i, l) va).1 = true
  · obtain ⟨f', g', q, y1, y2, y3, y4, y5, y6, y7⟩ := m2 b
    have hx' := tX_N hx (fN_t (fN_u (v := nI (B + p)) (fN_r f)) y5)
    have tr := m_trail (xs := xs) (t := t) (u := u) (c := c) (s := s) (d := d) (g := g') hj hne (j - q) q (by omega) hx' y2 y4
    refine ⟨m_u f' 139 19 (nI (B + j)), g', ?_, fN_u (fN_t (fN_u (fN_r f)) y5), y6, fun _ => ⟨m_uu _, y7⟩⟩
    rw [st, y1, b, e_Md_fits_14, if_pos (by decide), tr]; rfl
  · have b' : (pt w 4 p (i, l) va).1 = false := by simpa using b
    obtain ⟨f', g', y1, y2, y3⟩ := m1 b'
    refine ⟨f', g', ?_, fN_t (fN_u (fN_r f)) y2, y3, fun hh => absurd hh b⟩
    rw [st, y1, b']; rfl
theorem m_cmp {r : Nat} {x y : sTm} {M : aM} {rel : Int32} (hd : 2 ≤ d) (hx : tv x.1 x.2) (hy : tv y.1 y.2) (hr : r = if rel = 61 then 1 else 0) : am_X (am_Y d) k_Md_takes 127 [(5, .long (mTh x)), (7, .int (nI r)), (8, .long (mTh y))] [] M = some (.inl (some (.int (m_b (cmpT rel x y)))), M) := by
  have h1 : 1 ≤ d := by omega
  have ii : ∀ {z : sTm} (hz : tv z.1 z.2), am_Y d 130 [.long (mTh z)] M = some (.inl (some (.int (m_b (isN z.1 z.2)))), M) := fun hz => by rw [mTh_t hz]; exact t_misInt hd hz
  have ll : ∀ {z : sTm} (hz : tv z.1 z.2), am_Y d 117 [.long (mTh z), .int 0] M = some (.inl (some (.int (nI (z.2.getD 0 0)))), M) := fun hz => by rw [mTh_t hz]; exact t_leafOf0 h1 hz
  have gx := getD_lt hx (sN_pos _ hx.1)
  have gy := getD_lt hy (sN_pos _ hy.1)
  unfold cmpT
  by_cases e : rel = 61
  · rw [if_pos e] at hr
    rw [if_pos e, hr, show nI 1 = 1 from rfl]
    by_cases h2 : x = y
    · simp (maxSteps := 4000000) (disch := first | omega | assumption) only [e_Md_takes_0, e_Md_takes_3, e_Md_takes_23, e_Md_takes_46, e_Md_takes_62, e_Md_takes_84, e_Md_takes_102, e_Md_takes_103, e_Md_takes_127, e_Md_takes_144, e_Md_takes_148, e_Md_takes_183, e_Md_takes_184, i_1_0, h2, mTh_eq hy hy, ft3_1, cond_true, i_11, i_01, i_1_0, i_0_1, not_true, not_false_eq_true, if_true, if_false, Bool.true_eq_false, Bool.false_eq_true, decide_true, decide_false]
      rfl
    · simp (maxSteps := 4000000) (disch := first | omega | assumption) only [e_Md_takes_0, e_Md_takes_3, e_Md_takes_23, e_Md_takes_46, e_Md_takes_62, e_Md_takes_84, e_Md_takes_102, e_Md_takes_103, e_Md_takes_127, e_Md_takes_144, e_Md_takes_148, e_Md_takes_183, e_Md_takes_184, i_1_0, mTh_eq hx hy, h2, ft3_0, cond_true, i_11, i_01, i_1_0, i_0_1, not_true, not_false_eq_true, if_true, if_false, Bool.true_eq_false, Bool.false_eq_true, decide_true, decide_false]
      rfl
  · rw [if_neg e] at hr
    rw [if_neg e, hr, show nI 0 = 0 from rfl]
    by_cases a1 : isN x.1 x.2 = true
    · by_cases a2 : isN y.1 y.2 = true
      · by_cases a3 : x.2.getD 0 0 < y.2.getD 0 0
        · have nl : ¬ nI (y.2.getD 0 0) ≤ nI (x.2.getD 0 0) := by rw [nI_leI (by omega) (by omega)]; omega
          simp (maxSteps := 4000000) (disch := first | omega | assumption) only [e_Md_takes_0, e_Md_takes_3, e_Md_takes_23, e_Md_takes_46, e_Md_takes_62, e_Md_takes_84, e_Md_takes_102, e_Md_takes_103, e_Md_takes_127, e_Md_takes_144, e_Md_takes_148, e_Md_takes_183, e_Md_takes_184, ↓bI (ii hx), ↓bI (ii hy), ↓bI (ll hx), ↓bI (ll hy), a1, a2, a3, m_b0, nl, ft3_1, cond_true, Bool.and_self, i_11, i_01, i_1_0, i_0_1, not_true, not_false_eq_true, if_true, if_false, Bool.true_eq_false, Bool.false_eq_true, decide_true, decide_false]
          rfl
        · have nl : nI (y.2.getD 0 0) ≤ nI (x.2.getD 0 0) := by rw [nI_leI (by omega) (by omega)]; omega
          simp (maxSteps := 4000000) (disch := first | omega | assumption) only [e_Md_takes_0, e_Md_takes_3, e_Md_takes_23, e_Md_takes_46, e_Md_takes_62, e_Md_takes_84, e_Md_takes_102, e_Md_takes_103, e_Md_takes_127, e_Md_takes_144, e_Md_takes_148, e_Md_takes_183, e_Md_takes_184, ↓bI (ii hx), ↓bI (ii hy), ↓bI (ll hx), ↓bI (ll hy), a1, a2, a3, m_b0, nl, ft3_0, cond_true, Bool.and_false, i_11, i_01, i_1_0, i_0_1, not_true, not_false_eq_true, if_true, if_false, Bool.true_eq_false, Bool.false_eq_true, decide_true, decide_false]
          rfl
      · have a2' : isN y.1 y.2 = false := by simpa using a2
        simp (maxSteps := 4000000) (disch := first | omega | assumption) only [e_Md_takes_0, e_Md_takes_3, e_Md_takes_23, e_Md_takes_46, e_Md_takes_62, e_Md_takes_84, e_Md_takes_102, e_Md_takes_103, e_Md_takes_127, e_Md_takes_144, e_Md_takes_148, e_Md_takes_183, e_Md_takes_184, ↓bI (ii hx), ↓bI (ii hy), a1, a2', m_b0, ft3_0, cond_true, Bool.false_and, Bool.and_false, i_11, i_01, i_1_0, i_0_1, not_true, not_false_eq_true, if_true, if_false, Bool.true_eq_false, Bool.false_eq_true, decide_true, decide_false]
        rfl
    · have a1' : isN x.1 x.2 = false := by simpa using a1
      simp (maxSteps := 4000000) (disch := first | omega | assumption) only [e_Md_takes_0, e_Md_takes_3, e_Md_takes_23, e_Md_takes_46, e_Md_takes_62, e_Md_takes_84, e_Md_takes_102, e_Md_takes_103, e_Md_takes_127, e_Md_takes_144, e_Md_takes_148, e_Md_takes_183, e_Md_takes_184, ↓bI (ii hx), a1', m_b0, ft3_0, cond_true, Bool.false_and, i_11, i_01, i_1_0, i_0_1, not_true, not_false_eq_true, if_true, if_false, Bool.true_eq_false, Bool.false_eq_true, decide_true, decide_false]
      rfl
theorem m_vars {f : mF} {g : mG} {x2 : Int32} {x3 : Int64} : ∀ q k, q + k = 5 → am_X (am_Y d) k_Md_takes 3 [(0, .ref 139), (1, .int (nI self)), (2, .int x2), (3, .long x3), (5, .int (nI k))] [] (mM xs f (fun x j => if x = 152 ∧ j < k then 0 else g x j) t u c s) = am_X (am_Y d) k_Md_takes 23 [(0, .ref 139), (1, .int (nI self)), (2, .int x2), (3, .long x3)] [] (mM xs f (fun x j => if x = 152 ∧ j < 5 then 0 else g x j) t u c s)
  | 0, k, hq => by
    have : k = 5 := by omega
    subst this
    rw [e_Md_takes_3, l_5, if_pos (nI_le (by omega) (by omega))]
  | q + 1, k, hq => by
    have ih := m_vars (f := f) (g := g) (x2 := x2) (x3 := x3) q (k + 1) (by omega)
    have e5 : ¬ nI 5 ≤ nI k := by rw [nI_leI (by omega) (by omega)]; omega
    have hw : m_w (fun x j => if x = 152 ∧ j < k then 0 else g x j) 152 k 0 = (fun x j => if x = 152 ∧ j < k + 1 then 0 else g x j) := by
      funext x j
      simp only [m_w]
      by_cases a1 : x = 152 ∧ j = k
      · rw [if_pos a1, if_pos (by omega)]
      · rw [if_neg a1]
        by_cases a2 : x = 152 ∧ j < k
        · rw [if_pos a2, if_pos (by omega)]
        · rw [if_neg a2, if_neg (by omega)]
    rw [← ih, ← hw, e_Md_takes_3, l_5, if_neg e5]
    simp (maxSteps := 4000000) (disch := first | omega | assumption) only [↓b_ix, ↓b_l3, ↓b_a3_0, ↓b_a3_1, ↓b_a3_2, ↓b_l4, ↓b_a4_0, ↓b_a4_1, ↓b_a4_2, ↓b_a4_3, ↓b_l129, ↓b_a129_0, ↓b_l130, ↓b_i130_1, ↓b_wi130_1, ↓b_l133, ↓b_a133_0, ↓b_a133_1, ↓b_i133_2, ↓b_wi133_2, ↓b_j133_3, ↓b_wj133_3, ↓b_i133_4, ↓b_wi133_4, ↓b_l134, ↓b_a134_0, ↓b_a134_1, ↓b_i134_2, ↓b_wi134_2, ↓b_i134_3, ↓b_wi134_3, ↓b_l135, ↓b_i135_1, ↓b_wi135_1, ↓b_l139, ↓b_a139_0, ↓b_a139_1, ↓b_a139_2, ↓b_a139_3, ↓b_a139_4, ↓b_a139_5, ↓b_a139_6, ↓b_a139_7, ↓b_a139_8, ↓b_a139_9, ↓b_a139_10, ↓b_a139_11, ↓b_a139_12, ↓b_a139_13, ↓b_a139_14, ↓b_i139_15, ↓b_wi139_15, ↓b_i139_16, ↓b_wi139_16, ↓b_i139_17, ↓b_wi139_17, ↓b_a139_18, ↓b_i139_19, ↓b_wi139_19, ↓b_i139_20, ↓b_wi139_20, ↓b_i139_21, ↓b_wi139_21, ↓b_l6, ↓b_i6, ↓b_wi6, ↓b_l140, ↓b_i140, ↓b_wi140, ↓b_l141, ↓b_i141, ↓b_wi141, ↓b_l142, ↓b_i142, ↓b_wi142, ↓b_l143, ↓b_i143, ↓b_wi143, ↓b_l144, ↓b_j144, ↓b_wj144, ↓b_l145, ↓b_j145, ↓b_wj145, ↓b_l146, ↓b_i146, ↓b_wi146, ↓b_l147, ↓b_i147, ↓b_wi147, ↓b_l148, ↓b_i148, ↓b_wi148, ↓b_l149, ↓b_i149, ↓b_wi149, ↓b_l150, ↓b_j150, ↓b_wj150, ↓b_l151, ↓b_i151, ↓b_wi151, ↓b_l152, ↓b_j152, ↓b_wj152, ↓b_l153, ↓b_i153, ↓b_wi153, ↓b_l154, ↓b_i154, ↓b_wi154, ↓b_l155, ↓b_j155, ↓b_wj155, ↓b_l156, ↓b_j156, ↓b_wj156, ↓b_l138, ↓b_j138, ↓b_wj138, ↓b_a5, ↓b_a13, ↓b_a44, ↓b_lA, ↓b_aA_0, ↓b_aA_1, ↓b_iA_2, ↓b_wiA_2, ↓b_iA_4, ↓b_wiA_4, ↓b_iA_5, ↓b_wiA_5, ↓b_iA_6, ↓b_wiA_6, ↓b_jA_3, ↓b_wjA_3, ↓b_lT, ↓b_lTc, ↓b_aT, ↓b_iT, ↓b_wiT, ↓b_iTc, ↓b_wiTc, ↓b_lW, ↓b_lWc, ↓b_aW, ↓b_iW, ↓b_wiW, ↓b_jWc, ↓b_wjWc, ↓b_rt, ↓b_ru, ↓b_wt, ↓b_wu, ↓b_0l, ↓b_0, ↓b_1, ↓b_2, m_tk, ↓reduceIte, cond_true, cond_false, Option.bind_some, nI_1]
theorem m_takes {f : mF} {g : mG} {p j1 j2 j : Nat} {st x : sTm} (hd : 6 ≤ d) (hn : n ≤ 60) (h6 : self < 6) (hst : tv st.1 st.2) (hX : tv x.1 x.2) (hx : tX f B n w) (hs : g 144 self = mTh st) (h : cz w n p j1 j2 j) : ∃ f' g', am_Y d 121 [.ref 139, .int (nI self), .int (nI (B + p)), .long (mTh x)] (mM xs f g t u c s) = some (.inl (some (.int (m_b (tk w n self st x p).1))), mM xs f' g' t u c s) ∧ fQ f f' ∧ gQ g g' ∧ ((tk w n self st x p).1 = true → f' 139 19 = nI (B + j2) ∧ ∀ v, v < 6 → g' 152 v = mTh ((tk w n self st x p).2.2 v)) := by
  obtain ⟨d, rfl⟩ : ∃ e, d = e + 1 := ⟨d - 1, by omega⟩
  have h1 : 1 ≤ d := by omega
  have h2 : 2 ≤ d := by omega
  have hcn := cz_n h
  have hB := hx.1
  obtain ⟨hy, hgp, hj2, h58, _⟩ := h
  have hV0 := va0_V hst
  -- the variables
  have hv5 := m_vars (xs := xs) (t := t) (u := u) (c := c) (s := s) (d := d) (self := self) (f := f) (g := g) (x2 := nI (B + p)) (x3 := mTh x) 5 0 rfl
  rw [show (fun x j => if x = 152 ∧ j < 0 then 0 else g x j) = g from (by funext x j; rw [if_neg (by omega)])] at hv5
  have hg0 : ∀ v, v < 6 → m_w (fun x j => if x = 152 ∧ j < 5 then 0 else g x j) 152 5 (mTh st) 152 v = mTh (va0 st v) := by
    intro v hv
    unfold va0
    by_cases e : v = 5
    · subst e; rw [m_ww, if_pos rfl]
    · rw [m_wn (by omega), if_pos (by omega), if_neg e]; rfl
  have gq0 : gQ g (m_w (fun x j => if x = 152 ∧ j < 5 then 0 else g x j) 152 5 (mTh st)) := fun x k a b => by rw [m_wn (by omega), if_neg (by omega)]
  have wj1 : ¬ w j1 = 41 := by
    rcases hgp with ⟨_, e, _⟩ | ⟨_, e⟩
    · rw [e]; decide
    · rw [← e, h58]; decide
  have g144 : (if 144 = 152 ∧ self < 5 then (0 : Int64) else g 144 self) = mTh st := by rw [if_neg (by omega)]; exact hs
  obtain ⟨f1, g1, y1, y2, y3, y4⟩ := m_fits (xs := xs) (t := t) (u := u) (c := c) (s := s) (f := f) (g := m_w (fun x j => if x = 152 ∧ j < 5 then 0 else g x j) 152 5 (mTh st)) (show 5 ≤ d by omega) hn hV0 hX hx hg0 hy (by omega) wj1
  obtain ⟨p1, p2, p3, p4⟩ := pt_all 4 hX hV0 hy
  have start : ∀ r : Option aR, am_X (am_Y d) k_Md_takes 23 [(0, .ref 139), (1, .int (nI self)), (2, .int (nI (B + p))), (3, .long (mTh x))] [] (mM xs f (fun x j => if x = 152 ∧ j < 5 then 0 else g x j) t u c s) = r → am_Y (d + 1) 121 [.ref 139, .int (nI self), .int (nI (B + p)), .long (mTh x)] (mM xs f g t u c s) = r := by
    intro r hr
    rw [← hr, ← hv5, y_Md_takes, e_Md_takes_0]; rfl
  have fq1 := fQ_N y2
  have gq1 := gQ_t gq0 (gQ_N y3)
  have hx1 := tX_Q hx fq1
  by_cases b1 : (pt w 4 p x (va0 st)).1 = true
  · obtain ⟨at1, vals⟩ := y4 b1
    have e1 := p3 b1
    rw [b1] at y1
    have wt : f1 140 (B + j1) = w j1 := hx1.2 j1 (by omega)
    rcases hgp with ⟨g1', g63, m, a1, a2, a3, a4⟩ | ⟨gno, e12⟩
    · have n1 := xp_n 4 a1
      have n2 := xp_n 4 a4
      obtain ⟨l1, l2, l3, l4⟩ := ev_all (va := (pt w 4 p x (va0 st)).2.2) h6 p4 4 a1
      obtain ⟨f2, g2, z1, z2, z3, z4, z5⟩ := m_evaluate (xs := xs) (t := t) (u := u) (c := c) (s := s) (self := self) (f := f1) (g := g1) (show 5 ≤ d by omega) hn h6 p4 hx1 vals a1
      have bj : nI (B + j1) + 1 = nI (B + (j1 + 1)) := by rw [nI_1, Nat.add_assoc]
      have htk : tk w n self st x p = ((gdF w n (pt w 4 p x (va0 st)).2.2 self j1).1, (gdF w n (pt w 4 p x (va0 st)).2.2 self j1).2, (pt w 4 p x (va0 st)).2.2) := by unfold tk; rw [if_pos b1, e1]
      rw [htk]
      have n58 : ¬ (63 : Int32) = 58 := by decide
      unfold gdF
      rw [if_pos ⟨g1', g63⟩]
      have fq2 := fQ_t fq1 (fQ_M z4)
      have gq2 := gQ_t gq1 (gQ_M z5)
      rw [g63] at wt
      by_cases c1 : (ev w (pt w 4 p x (va0 st)).2.2 self 4 (j1 + 1)).1.1 < 9
      · have em := l4 c1
        have at2 := z3 c1
        have hx2 := tX_Q hx fq2
        have wm : f2 140 (B + m) = w m := hx2.2 m a2
        have vals2 : ∀ v, v < 6 → g2 152 v = mTh ((pt w 4 p x (va0 st)).2.2 v) := gv_g vals z5
        obtain ⟨r1, r2, r3, r4⟩ := ev_all (va := (pt w 4 p x (va0 st)).2.2) h6 p4 4 a4
        obtain ⟨f3, g3, k1, k2, k3, k4, k5⟩ := m_evaluate (xs := xs) (t := t) (u := u) (c := c) (s := s) (self := self) (f := f2) (g := g2) (show 5 ≤ d by omega) hn h6 p4 hx2 vals2 a4
        have bm : nI (B + m) + 1 = nI (B + (m + 1)) := by rw [nI_1, Nat.add_assoc]
        have fq3 := fQ_t fq2 (fQ_M k4)
        have gq3 := gQ_t gq2 (gQ_M k5)
        rw [if_pos c1, em]
        have tail : ∀ sm : Nat, sm = (if w m = 61 then 1 else 0) → am_X (am_Y d) k_Md_takes 103 [(0, .ref 139), (1, .int (nI self)), (5, .long (mTh (ev w (pt w 4 p x (va0 st)).2.2 self 4 (j1 + 1)).1))] [.int (nI sm)] (mM xs f2 g2 t u c s) = some (.inl (some (.int (m_b (if (ev w (pt w 4 p x (va0 st)).2.2 self 4 (m + 1)).1.1 < 9 then cmpT (w m) (ev w (pt w 4 p x (va0 st)).2.2 self 4 (j1 + 1)).1 (ev w (pt w 4 p x (va0 st)).2.2 self 4 (m + 1)).1 else false)))), mM xs f3 g3 t u c s) := by
          intro sm hsm
          by_cases c2 : (ev w (pt w 4 p x (va0 st)).2.2 self 4 (m + 1)).1.1 < 9
          · rw [if_pos c2, ← m_cmp (M := mM xs f3 g3 t u c s) h2 (vT_9 l1 c1) (vT_9 r1 c2) hsm]
            simp (maxSteps := 4000000) (disch := first | omega | assumption) only [↓b_ix, ↓b_l3, ↓b_a3_0, ↓b_a3_1, ↓b_a3_2, ↓b_l4, ↓b_a4_0, ↓b_a4_1, ↓b_a4_2, ↓b_a4_3, ↓b_l129, ↓b_a129_0, ↓b_l130, ↓b_i130_1, ↓b_wi130_1, ↓b_l133, ↓b_a133_0, ↓b_a133_1, ↓b_i133_2, ↓b_wi133_2, ↓b_j133_3, ↓b_wj133_3, ↓b_i133_4, ↓b_wi133_4, ↓b_l134, ↓b_a134_0, ↓b_a134_1, ↓b_i134_2, ↓b_wi134_2, ↓b_i134_3, ↓b_wi134_3, ↓b_l135, ↓b_i135_1, ↓b_wi135_1, ↓b_l139, ↓b_a139_0, ↓b_a139_1, ↓b_a139_2, ↓b_a139_3, ↓b_a139_4, ↓b_a139_5, ↓b_a139_6, ↓b_a139_7, ↓b_a139_8, ↓b_a139_9, ↓b_a139_10, ↓b_a139_11, ↓b_a139_12, ↓b_a139_13, ↓b_a139_14, ↓b_i139_15, ↓b_wi139_15, ↓b_i139_16, ↓b_wi139_16, ↓b_i139_17, ↓b_wi139_17, ↓b_a139_18, ↓b_i139_19, ↓b_wi139_19, ↓b_i139_20, ↓b_wi139_20, ↓b_i139_21, ↓b_wi139_21, ↓b_l6, ↓b_i6, ↓b_wi6, ↓b_l140, ↓b_i140, ↓b_wi140, ↓b_l141, ↓b_i141, ↓b_wi141, ↓b_l142, ↓b_i142, ↓b_wi142, ↓b_l143, ↓b_i143, ↓b_wi143, ↓b_l144, ↓b_j144, ↓b_wj144, ↓b_l145, ↓b_j145, ↓b_wj145, ↓b_l146, ↓b_i146, ↓b_wi146, ↓b_l147, ↓b_i147, ↓b_wi147, ↓b_l148, ↓b_i148, ↓b_wi148, ↓b_l149, ↓b_i149, ↓b_wi149, ↓b_l150, ↓b_j150, ↓b_wj150, ↓b_l151, ↓b_i151, ↓b_wi151, ↓b_l152, ↓b_j152, ↓b_wj152, ↓b_l153, ↓b_i153, ↓b_wi153, ↓b_l154, ↓b_i154, ↓b_wi154, ↓b_l155, ↓b_j155, ↓b_wj155, ↓b_l156, ↓b_j156, ↓b_wj156, ↓b_l138, ↓b_j138, ↓b_wj138, ↓b_a5, ↓b_a13, ↓b_a44, ↓b_lA, ↓b_aA_0, ↓b_aA_1, ↓b_iA_2, ↓b_wiA_2, ↓b_iA_4, ↓b_wiA_4, ↓b_iA_5, ↓b_wiA_5, ↓b_iA_6, ↓b_wiA_6, ↓b_jA_3, ↓b_wjA_3, ↓b_lT, ↓b_lTc, ↓b_aT, ↓b_iT, ↓b_wiT, ↓b_iTc, ↓b_wiTc, ↓b_lW, ↓b_lWc, ↓b_aW, ↓b_iW, ↓b_wiW, ↓b_jWc, ↓b_wjWc, ↓b_rt, ↓b_ru, ↓b_wt, ↓b_wu, ↓b_0l, ↓b_0, ↓b_1, ↓b_2, m_tk, ↓reduceIte, cond_true, cond_false, Option.bind_some, e_Md_takes_103, at2, bm, ↓bJ k1, mTh_0 r1, c2, i_11, i_01, i_1_0, i_0_1, not_true, not_false_eq_true, if_true, if_false, Bool.true_eq_false, Bool.false_eq_true, decide_true, decide_false]
          · rw [if_neg c2]
            simp (maxSteps := 4000000) (disch := first | omega | assumption) only [↓b_ix, ↓b_l3, ↓b_a3_0, ↓b_a3_1, ↓b_a3_2, ↓b_l4, ↓b_a4_0, ↓b_a4_1, ↓b_a4_2, ↓b_a4_3, ↓b_l129, ↓b_a129_0, ↓b_l130, ↓b_i130_1, ↓b_wi130_1, ↓b_l133, ↓b_a133_0, ↓b_a133_1, ↓b_i133_2, ↓b_wi133_2, ↓b_j133_3, ↓b_wj133_3, ↓b_i133_4, ↓b_wi133_4, ↓b_l134, ↓b_a134_0, ↓b_a134_1, ↓b_i134_2, ↓b_wi134_2, ↓b_i134_3, ↓b_wi134_3, ↓b_l135, ↓b_i135_1, ↓b_wi135_1, ↓b_l139, ↓b_a139_0, ↓b_a139_1, ↓b_a139_2, ↓b_a139_3, ↓b_a139_4, ↓b_a139_5, ↓b_a139_6, ↓b_a139_7, ↓b_a139_8, ↓b_a139_9, ↓b_a139_10, ↓b_a139_11, ↓b_a139_12, ↓b_a139_13, ↓b_a139_14, ↓b_i139_15, ↓b_wi139_15, ↓b_i139_16, ↓b_wi139_16, ↓b_i139_17, ↓b_wi139_17, ↓b_a139_18, ↓b_i139_19, ↓b_wi139_19, ↓b_i139_20, ↓b_wi139_20, ↓b_i139_21, ↓b_wi139_21, ↓b_l6, ↓b_i6, ↓b_wi6, ↓b_l140, ↓b_i140, ↓b_wi140, ↓b_l141, ↓b_i141, ↓b_wi141, ↓b_l142, ↓b_i142, ↓b_wi142, ↓b_l143, ↓b_i143, ↓b_wi143, ↓b_l144, ↓b_j144, ↓b_wj144, ↓b_l145, ↓b_j145, ↓b_wj145, ↓b_l146, ↓b_i146, ↓b_wi146, ↓b_l147, ↓b_i147, ↓b_wi147, ↓b_l148, ↓b_i148, ↓b_wi148, ↓b_l149, ↓b_i149, ↓b_wi149, ↓b_l150, ↓b_j150, ↓b_wj150, ↓b_l151, ↓b_i151, ↓b_wi151, ↓b_l152, ↓b_j152, ↓b_wj152, ↓b_l153, ↓b_i153, ↓b_wi153, ↓b_l154, ↓b_i154, ↓b_wi154, ↓b_l155, ↓b_j155, ↓b_wj155, ↓b_l156, ↓b_j156, ↓b_wj156, ↓b_l138, ↓b_j138, ↓b_wj138, ↓b_a5, ↓b_a13, ↓b_a44, ↓b_lA, ↓b_aA_0, ↓b_aA_1, ↓b_iA_2, ↓b_wiA_2, ↓b_iA_4, ↓b_wiA_4, ↓b_iA_5, ↓b_wiA_5, ↓b_iA_6, ↓b_wiA_6, ↓b_jA_3, ↓b_wjA_3, ↓b_lT, ↓b_lTc, ↓b_aT, ↓b_iT, ↓b_wiT, ↓b_iTc, ↓b_wiTc, ↓b_lW, ↓b_lWc, ↓b_aW, ↓b_iW, ↓b_wiW, ↓b_jWc, ↓b_wjWc, ↓b_rt, ↓b_ru, ↓b_wt, ↓b_wu, ↓b_0l, ↓b_0, ↓b_1, ↓b_2, m_tk, ↓reduceIte, cond_true, cond_false, Option.bind_some, e_Md_takes_103, at2, bm, ↓bJ k1, mTh_0 r1, c2, i_11, i_01, i_1_0, i_0_1, not_true, not_false_eq_true, if_true, if_false, Bool.true_eq_false, Bool.false_eq_true, decide_true, decide_false]
            rfl
        have tail2 : am_X (am_Y d) k_Md_takes 84 [(0, .ref 139), (1, .int (nI self)), (5, .long (mTh (ev w (pt w 4 p x (va0 st)).2.2 self 4 (j1 + 1)).1))] [] (mM xs f2 g2 t u c s) = some (.inl (some (.int (m_b (if (ev w (pt w 4 p x (va0 st)).2.2 self 4 (m + 1)).1.1 < 9 then cmpT (w m) (ev w (pt w 4 p x (va0 st)).2.2 self 4 (j1 + 1)).1 (ev w (pt w 4 p x (va0 st)).2.2 self 4 (m + 1)).1 else false)))), mM xs f3 g3 t u c s) := by
          by_cases e61 : w m = 61
          · rw [← tail 1 (by rw [if_pos e61]), show nI 1 = 1 from rfl]
            simp (maxSteps := 4000000) (disch := first | omega | assumption) only [↓b_ix, ↓b_l3, ↓b_a3_0, ↓b_a3_1, ↓b_a3_2, ↓b_l4, ↓b_a4_0, ↓b_a4_1, ↓b_a4_2, ↓b_a4_3, ↓b_l129, ↓b_a129_0, ↓b_l130, ↓b_i130_1, ↓b_wi130_1, ↓b_l133, ↓b_a133_0, ↓b_a133_1, ↓b_i133_2, ↓b_wi133_2, ↓b_j133_3, ↓b_wj133_3, ↓b_i133_4, ↓b_wi133_4, ↓b_l134, ↓b_a134_0, ↓b_a134_1, ↓b_i134_2, ↓b_wi134_2, ↓b_i134_3, ↓b_wi134_3, ↓b_l135, ↓b_i135_1, ↓b_wi135_1, ↓b_l139, ↓b_a139_0, ↓b_a139_1, ↓b_a139_2, ↓b_a139_3, ↓b_a139_4, ↓b_a139_5, ↓b_a139_6, ↓b_a139_7, ↓b_a139_8, ↓b_a139_9, ↓b_a139_10, ↓b_a139_11, ↓b_a139_12, ↓b_a139_13, ↓b_a139_14, ↓b_i139_15, ↓b_wi139_15, ↓b_i139_16, ↓b_wi139_16, ↓b_i139_17, ↓b_wi139_17, ↓b_a139_18, ↓b_i139_19, ↓b_wi139_19, ↓b_i139_20, ↓b_wi139_20, ↓b_i139_21, ↓b_wi139_21, ↓b_l6, ↓b_i6, ↓b_wi6, ↓b_l140, ↓b_i140, ↓b_wi140, ↓b_l141, ↓b_i141, ↓b_wi141, ↓b_l142, ↓b_i142, ↓b_wi142, ↓b_l143, ↓b_i143, ↓b_wi143, ↓b_l144, ↓b_j144, ↓b_wj144, ↓b_l145, ↓b_j145, ↓b_wj145, ↓b_l146, ↓b_i146, ↓b_wi146, ↓b_l147, ↓b_i147, ↓b_wi147, ↓b_l148, ↓b_i148, ↓b_wi148, ↓b_l149, ↓b_i149, ↓b_wi149, ↓b_l150, ↓b_j150, ↓b_wj150, ↓b_l151, ↓b_i151, ↓b_wi151, ↓b_l152, ↓b_j152, ↓b_wj152, ↓b_l153, ↓b_i153, ↓b_wi153, ↓b_l154, ↓b_i154, ↓b_wi154, ↓b_l155, ↓b_j155, ↓b_wj155, ↓b_l156, ↓b_j156, ↓b_wj156, ↓b_l138, ↓b_j138, ↓b_wj138, ↓b_a5, ↓b_a13, ↓b_a44, ↓b_lA, ↓b_aA_0, ↓b_aA_1, ↓b_iA_2, ↓b_wiA_2, ↓b_iA_4, ↓b_wiA_4, ↓b_iA_5, ↓b_wiA_5, ↓b_iA_6, ↓b_wiA_6, ↓b_jA_3, ↓b_wjA_3, ↓b_lT, ↓b_lTc, ↓b_aT, ↓b_iT, ↓b_wiT, ↓b_iTc, ↓b_wiTc, ↓b_lW, ↓b_lWc, ↓b_aW, ↓b_iW, ↓b_wiW, ↓b_jWc, ↓b_wjWc, ↓b_rt, ↓b_ru, ↓b_wt, ↓b_wu, ↓b_0l, ↓b_0, ↓b_1, ↓b_2, m_tk, ↓reduceIte, cond_true, cond_false, Option.bind_some, e_Md_takes_84, at2, wm, e61, i_11, i_01, i_1_0, i_0_1, not_true, not_false_eq_true, if_true, if_false, Bool.true_eq_false, Bool.false_eq_true, decide_true, decide_false]
          · rw [← tail 0 (by rw [if_neg e61]), show nI 0 = 0 from rfl]
            simp (maxSteps := 4000000) (disch := first | omega | assumption) only [↓b_ix, ↓b_l3, ↓b_a3_0, ↓b_a3_1, ↓b_a3_2, ↓b_l4, ↓b_a4_0, ↓b_a4_1, ↓b_a4_2, ↓b_a4_3, ↓b_l129, ↓b_a129_0, ↓b_l130, ↓b_i130_1, ↓b_wi130_1, ↓b_l133, ↓b_a133_0, ↓b_a133_1, ↓b_i133_2, ↓b_wi133_2, ↓b_j133_3, ↓b_wj133_3, ↓b_i133_4, ↓b_wi133_4, ↓b_l134, ↓b_a134_0, ↓b_a134_1, ↓b_i134_2, ↓b_wi134_2, ↓b_i134_3, ↓b_wi134_3, ↓b_l135, ↓b_i135_1, ↓b_wi135_1, ↓b_l139, ↓b_a139_0, ↓b_a139_1, ↓b_a139_2, ↓b_a139_3, ↓b_a139_4, ↓b_a139_5, ↓b_a139_6, ↓b_a139_7, ↓b_a139_8, ↓b_a139_9, ↓b_a139_10, ↓b_a139_11, ↓b_a139_12, ↓b_a139_13, ↓b_a139_14, ↓b_i139_15, ↓b_wi139_15, ↓b_i139_16, ↓b_wi139_16, ↓b_i139_17, ↓b_wi139_17, ↓b_a139_18, ↓b_i139_19, ↓b_wi139_19, ↓b_i139_20, ↓b_wi139_20, ↓b_i139_21, ↓b_wi139_21, ↓b_l6, ↓b_i6, ↓b_wi6, ↓b_l140, ↓b_i140, ↓b_wi140, ↓b_l141, ↓b_i141, ↓b_wi141, ↓b_l142, ↓b_i142, ↓b_wi142, ↓b_l143, ↓b_i143, ↓b_wi143, ↓b_l144, ↓b_j144, ↓b_wj144, ↓b_l145, ↓b_j145, ↓b_wj145, ↓b_l146, ↓b_i146, ↓b_wi146, ↓b_l147, ↓b_i147, ↓b_wi147, ↓b_l148, ↓b_i148, ↓b_wi148, ↓b_l149, ↓b_i149, ↓b_wi149, ↓b_l150, ↓b_j150, ↓b_wj150, ↓b_l151, ↓b_i151, ↓b_wi151, ↓b_l152, ↓b_j152, ↓b_wj152, ↓b_l153, ↓b_i153, ↓b_wi153, ↓b_l154, ↓b_i154, ↓b_wi154, ↓b_l155, ↓b_j155, ↓b_wj155, ↓b_l156, ↓b_j156, ↓b_wj156, ↓b_l138, ↓b_j138, ↓b_wj138, ↓b_a5, ↓b_a13, ↓b_a44, ↓b_lA, ↓b_aA_0, ↓b_aA_1, ↓b_iA_2, ↓b_wiA_2, ↓b_iA_4, ↓b_wiA_4, ↓b_iA_5, ↓b_wiA_5, ↓b_iA_6, ↓b_wiA_6, ↓b_jA_3, ↓b_wjA_3, ↓b_lT, ↓b_lTc, ↓b_aT, ↓b_iT, ↓b_wiT, ↓b_iTc, ↓b_wiTc, ↓b_lW, ↓b_lWc, ↓b_aW, ↓b_iW, ↓b_wiW, ↓b_jWc, ↓b_wjWc, ↓b_rt, ↓b_ru, ↓b_wt, ↓b_wu, ↓b_0l, ↓b_0, ↓b_1, ↓b_2, m_tk, ↓reduceIte, cond_true, cond_false, Option.bind_some, e_Md_takes_84, e_Md_takes_102, at2, wm, e61, i_11, i_01, i_1_0, i_0_1, not_true, not_false_eq_true, if_true, if_false, Bool.true_eq_false, Bool.false_eq_true, decide_true, decide_false]
        refine ⟨f3, g3, ?_, fq3, gq3, fun hh => ?_⟩
        · apply start
          have : (if (ev w (pt w 4 p x (va0 st)).2.2 self 4 (m + 1)).1.1 < 9 then (cmpT (w m) (ev w (pt w 4 p x (va0 st)).2.2 self 4 (j1 + 1)).1 (ev w (pt w 4 p x (va0 st)).2.2 self 4 (m + 1)).1, (ev w (pt w 4 p x (va0 st)).2.2 self 4 (m + 1)).2) else (false, (ev w (pt w 4 p x (va0 st)).2.2 self 4 (m + 1)).2)).1 = (if (ev w (pt w 4 p x (va0 st)).2.2 self 4 (m + 1)).1.1 < 9 then cmpT (w m) (ev w (pt w 4 p x (va0 st)).2.2 self 4 (j1 + 1)).1 (ev w (pt w 4 p x (va0 st)).2.2 self 4 (m + 1)).1 else false) := by split <;> rfl
          rw [this, ← tail2]
          simp (maxSteps := 4000000) (disch := first | omega | assumption) only [↓b_ix, ↓b_l3, ↓b_a3_0, ↓b_a3_1, ↓b_a3_2, ↓b_l4, ↓b_a4_0, ↓b_a4_1, ↓b_a4_2, ↓b_a4_3, ↓b_l129, ↓b_a129_0, ↓b_l130, ↓b_i130_1, ↓b_wi130_1, ↓b_l133, ↓b_a133_0, ↓b_a133_1, ↓b_i133_2, ↓b_wi133_2, ↓b_j133_3, ↓b_wj133_3, ↓b_i133_4, ↓b_wi133_4, ↓b_l134, ↓b_a134_0, ↓b_a134_1, ↓b_i134_2, ↓b_wi134_2, ↓b_i134_3, ↓b_wi134_3, ↓b_l135, ↓b_i135_1, ↓b_wi135_1, ↓b_l139, ↓b_a139_0, ↓b_a139_1, ↓b_a139_2, ↓b_a139_3, ↓b_a139_4, ↓b_a139_5, ↓b_a139_6, ↓b_a139_7, ↓b_a139_8, ↓b_a139_9, ↓b_a139_10, ↓b_a139_11, ↓b_a139_12, ↓b_a139_13, ↓b_a139_14, ↓b_i139_15, ↓b_wi139_15, ↓b_i139_16, ↓b_wi139_16, ↓b_i139_17, ↓b_wi139_17, ↓b_a139_18, ↓b_i139_19, ↓b_wi139_19, ↓b_i139_20, ↓b_wi139_20, ↓b_i139_21, ↓b_wi139_21, ↓b_l6, ↓b_i6, ↓b_wi6, ↓b_l140, ↓b_i140, ↓b_wi140, ↓b_l141, ↓b_i141, ↓b_wi141, ↓b_l142, ↓b_i142, ↓b_wi142, ↓b_l143, ↓b_i143, ↓b_wi143, ↓b_l144, ↓b_j144, ↓b_wj144, ↓b_l145, ↓b_j145, ↓b_wj145, ↓b_l146, ↓b_i146, ↓b_wi146, ↓b_l147, ↓b_i147, ↓b_wi147, ↓b_l148, ↓b_i148, ↓b_wi148, ↓b_l149, ↓b_i149, ↓b_wi149, ↓b_l150, ↓b_j150, ↓b_wj150, ↓b_l151, ↓b_i151, ↓b_wi151, ↓b_l152, ↓b_j152, ↓b_wj152, ↓b_l153, ↓b_i153, ↓b_wi153, ↓b_l154, ↓b_i154, ↓b_wi154, ↓b_l155, ↓b_j155, ↓b_wj155, ↓b_l156, ↓b_j156, ↓b_wj156, ↓b_l138, ↓b_j138, ↓b_wj138, ↓b_a5, ↓b_a13, ↓b_a44, ↓b_lA, ↓b_aA_0, ↓b_aA_1, ↓b_iA_2, ↓b_wiA_2, ↓b_iA_4, ↓b_wiA_4, ↓b_iA_5, ↓b_wiA_5, ↓b_iA_6, ↓b_wiA_6, ↓b_jA_3, ↓b_wjA_3, ↓b_lT, ↓b_lTc, ↓b_aT, ↓b_iT, ↓b_wiT, ↓b_iTc, ↓b_wiTc, ↓b_lW, ↓b_lWc, ↓b_aW, ↓b_iW, ↓b_wiW, ↓b_jWc, ↓b_wjWc, ↓b_rt, ↓b_ru, ↓b_wt, ↓b_wu, ↓b_0l, ↓b_0, ↓b_1, ↓b_2, m_tk, ↓reduceIte, cond_true, cond_false, Option.bind_some, e_Md_takes_23, e_Md_takes_46, e_Md_takes_62, ↓show am_ix 5 = some 5 from rfl, g144, ↓bI y1, m_b0, at1, wt, n58, bj, ↓bJ z1, mTh_0 l1, c1, i_11, i_01, i_1_0, i_0_1, not_true, not_false_eq_true, if_true, if_false, Bool.true_eq_false, Bool.false_eq_true, decide_true, decide_false]
        · by_cases c2 : (ev w (pt w 4 p x (va0 st)).2.2 self 4 (m + 1)).1.1 < 9
          · exact ⟨k3 c2, gv_g vals2 k5⟩
          · rw [if_neg c2] at hh; exact (nomatch (hh : false = true))
      · rw [if_neg c1]
        refine ⟨f2, g2, ?_, fq2, gq2, fun hh => (nomatch (hh : false = true))⟩
        apply start
        simp (maxSteps := 4000000) (disch := first | omega | assumption) only [↓b_ix, ↓b_l3, ↓b_a3_0, ↓b_a3_1, ↓b_a3_2, ↓b_l4, ↓b_a4_0, ↓b_a4_1, ↓b_a4_2, ↓b_a4_3, ↓b_l129, ↓b_a129_0, ↓b_l130, ↓b_i130_1, ↓b_wi130_1, ↓b_l133, ↓b_a133_0, ↓b_a133_1, ↓b_i133_2, ↓b_wi133_2, ↓b_j133_3, ↓b_wj133_3, ↓b_i133_4, ↓b_wi133_4, ↓b_l134, ↓b_a134_0, ↓b_a134_1, ↓b_i134_2, ↓b_wi134_2, ↓b_i134_3, ↓b_wi134_3, ↓b_l135, ↓b_i135_1, ↓b_wi135_1, ↓b_l139, ↓b_a139_0, ↓b_a139_1, ↓b_a139_2, ↓b_a139_3, ↓b_a139_4, ↓b_a139_5, ↓b_a139_6, ↓b_a139_7, ↓b_a139_8, ↓b_a139_9, ↓b_a139_10, ↓b_a139_11, ↓b_a139_12, ↓b_a139_13, ↓b_a139_14, ↓b_i139_15, ↓b_wi139_15, ↓b_i139_16, ↓b_wi139_16, ↓b_i139_17, ↓b_wi139_17, ↓b_a139_18, ↓b_i139_19, ↓b_wi139_19, ↓b_i139_20, ↓b_wi139_20, ↓b_i139_21, ↓b_wi139_21, ↓b_l6, ↓b_i6, ↓b_wi6, ↓b_l140, ↓b_i140, ↓b_wi140, ↓b_l141, ↓b_i141, ↓b_wi141, ↓b_l142, ↓b_i142, ↓b_wi142, ↓b_l143, ↓b_i143, ↓b_wi143, ↓b_l144, ↓b_j144, ↓b_wj144, ↓b_l145, ↓b_j145, ↓b_wj145, ↓b_l146, ↓b_i146, ↓b_wi146, ↓b_l147, ↓b_i147, ↓b_wi147, ↓b_l148, ↓b_i148, ↓b_wi148, ↓b_l149, ↓b_i149, ↓b_wi149, ↓b_l150, ↓b_j150, ↓b_wj150, ↓b_l151, ↓b_i151, ↓b_wi151, ↓b_l152, ↓b_j152, ↓b_wj152, ↓b_l153, ↓b_i153, ↓b_wi153, ↓b_l154, ↓b_i154, ↓b_wi154, ↓b_l155, ↓b_j155, ↓b_wj155, ↓b_l156, ↓b_j156, ↓b_wj156, ↓b_l138, ↓b_j138, ↓b_wj138, ↓b_a5, ↓b_a13, ↓b_a44, ↓b_lA, ↓b_aA_0, ↓b_aA_1, ↓b_iA_2, ↓b_wiA_2, ↓b_iA_4, ↓b_wiA_4, ↓b_iA_5, ↓b_wiA_5, ↓b_iA_6, ↓b_wiA_6, ↓b_jA_3, ↓b_wjA_3, ↓b_lT, ↓b_lTc, ↓b_aT, ↓b_iT, ↓b_wiT, ↓b_iTc, ↓b_wiTc, ↓b_lW, ↓b_lWc, ↓b_aW, ↓b_iW, ↓b_wiW, ↓b_jWc, ↓b_wjWc, ↓b_rt, ↓b_ru, ↓b_wt, ↓b_wu, ↓b_0l, ↓b_0, ↓b_1, ↓b_2, m_tk, ↓reduceIte, cond_true, cond_false, Option.bind_some, e_Md_takes_23, e_Md_takes_46, e_Md_takes_62, ↓show am_ix 5 = some 5 from rfl, g144, ↓bI y1, m_b0, at1, wt, n58, bj, ↓bJ z1, mTh_0 l1, c1, i_11, i_01, i_1_0, i_0_1, not_true, not_false_eq_true, if_true, if_false, Bool.true_eq_false, Bool.false_eq_true, decide_true, decide_false]
        rfl
    · have htk : tk w n self st x p = (true, j1, (pt w 4 p x (va0 st)).2.2) := by
        unfold tk; rw [if_pos b1, e1]; unfold gdF; rw [if_neg gno]
      rw [htk]
      rw [e12] at h58
      rw [h58] at wt
      refine ⟨f1, g1, ?_, fq1, gq1, fun _ => ⟨by rw [e12]; exact at1, vals⟩⟩
      apply start
      simp (maxSteps := 4000000) (disch := first | omega | assumption) only [↓b_ix, ↓b_l3, ↓b_a3_0, ↓b_a3_1, ↓b_a3_2, ↓b_l4, ↓b_a4_0, ↓b_a4_1, ↓b_a4_2, ↓b_a4_3, ↓b_l129, ↓b_a129_0, ↓b_l130, ↓b_i130_1, ↓b_wi130_1, ↓b_l133, ↓b_a133_0, ↓b_a133_1, ↓b_i133_2, ↓b_wi133_2, ↓b_j133_3, ↓b_wj133_3, ↓b_i133_4, ↓b_wi133_4, ↓b_l134, ↓b_a134_0, ↓b_a134_1, ↓b_i134_2, ↓b_wi134_2, ↓b_i134_3, ↓b_wi134_3, ↓b_l135, ↓b_i135_1, ↓b_wi135_1, ↓b_l139, ↓b_a139_0, ↓b_a139_1, ↓b_a139_2, ↓b_a139_3, ↓b_a139_4, ↓b_a139_5, ↓b_a139_6, ↓b_a139_7, ↓b_a139_8, ↓b_a139_9, ↓b_a139_10, ↓b_a139_11, ↓b_a139_12, ↓b_a139_13, ↓b_a139_14, ↓b_i139_15, ↓b_wi139_15, ↓b_i139_16, ↓b_wi139_16, ↓b_i139_17, ↓b_wi139_17, ↓b_a139_18, ↓b_i139_19, ↓b_wi139_19, ↓b_i139_20, ↓b_wi139_20, ↓b_i139_21, ↓b_wi139_21, ↓b_l6, ↓b_i6, ↓b_wi6, ↓b_l140, ↓b_i140, ↓b_wi140, ↓b_l141, ↓b_i141, ↓b_wi141, ↓b_l142, ↓b_i142, ↓b_wi142, ↓b_l143, ↓b_i143, ↓b_wi143, ↓b_l144, ↓b_j144, ↓b_wj144, ↓b_l145, ↓b_j145, ↓b_wj145, ↓b_l146, ↓b_i146, ↓b_wi146, ↓b_l147, ↓b_i147, ↓b_wi147, ↓b_l148, ↓b_i148, ↓b_wi148, ↓b_l149, ↓b_i149, ↓b_wi149, ↓b_l150, ↓b_j150, ↓b_wj150, ↓b_l151, ↓b_i151, ↓b_wi151, ↓b_l152, ↓b_j152, ↓b_wj152, ↓b_l153, ↓b_i153, ↓b_wi153, ↓b_l154, ↓b_i154, ↓b_wi154, ↓b_l155, ↓b_j155, ↓b_wj155, ↓b_l156, ↓b_j156, ↓b_wj156, ↓b_l138, ↓b_j138, ↓b_wj138, ↓b_a5, ↓b_a13, ↓b_a44, ↓b_lA, ↓b_aA_0, ↓b_aA_1, ↓b_iA_2, ↓b_wiA_2, ↓b_iA_4, ↓b_wiA_4, ↓b_iA_5, ↓b_wiA_5, ↓b_iA_6, ↓b_wiA_6, ↓b_jA_3, ↓b_wjA_3, ↓b_lT, ↓b_lTc, ↓b_aT, ↓b_iT, ↓b_wiT, ↓b_iTc, ↓b_wiTc, ↓b_lW, ↓b_lWc, ↓b_aW, ↓b_iW, ↓b_wiW, ↓b_jWc, ↓b_wjWc, ↓b_rt, ↓b_ru, ↓b_wt, ↓b_wu, ↓b_0l, ↓b_0, ↓b_1, ↓b_2, m_tk, ↓reduceIte, cond_true, cond_false, Option.bind_some, e_Md_takes_23, e_Md_takes_46, ↓show am_ix 5 = some 5 from rfl, g144, ↓bI y1, m_b0, at1, wt, i_11, i_01, i_1_0, i_0_1, not_true, not_false_eq_true, if_true, if_false, Bool.true_eq_false, Bool.false_eq_true, decide_true, decide_false]
      rfl
  · have b1' : (pt w 4 p x (va0 st)).1 = false := by simpa using b1
    have htk : tk w n self st x p = (false, 0, va0 st) := by unfold tk; rw [if_neg b1]
    rw [htk]
    rw [b1'] at y1
    refine ⟨f1, g1, ?_, fq1, gq1, fun hh => (nomatch (hh : false = true))⟩
    apply start
    simp (maxSteps := 4000000) (disch := first | omega | assumption) only [↓b_ix, ↓b_l3, ↓b_a3_0, ↓b_a3_1, ↓b_a3_2, ↓b_l4, ↓b_a4_0, ↓b_a4_1, ↓b_a4_2, ↓b_a4_3, ↓b_l129, ↓b_a129_0, ↓b_l130, ↓b_i130_1, ↓b_wi130_1, ↓b_l133, ↓b_a133_0, ↓b_a133_1, ↓b_i133_2, ↓b_wi133_2, ↓b_j133_3, ↓b_wj133_3, ↓b_i133_4, ↓b_wi133_4, ↓b_l134, ↓b_a134_0, ↓b_a134_1, ↓b_i134_2, ↓b_wi134_2, ↓b_i134_3, ↓b_wi134_3, ↓b_l135, ↓b_i135_1, ↓b_wi135_1, ↓b_l139, ↓b_a139_0, ↓b_a139_1, ↓b_a139_2, ↓b_a139_3, ↓b_a139_4, ↓b_a139_5, ↓b_a139_6, ↓b_a139_7, ↓b_a139_8, ↓b_a139_9, ↓b_a139_10, ↓b_a139_11, ↓b_a139_12, ↓b_a139_13, ↓b_a139_14, ↓b_i139_15, ↓b_wi139_15, ↓b_i139_16, ↓b_wi139_16, ↓b_i139_17, ↓b_wi139_17, ↓b_a139_18, ↓b_i139_19, ↓b_wi139_19, ↓b_i139_20, ↓b_wi139_20, ↓b_i139_21, ↓b_wi139_21, ↓b_l6, ↓b_i6, ↓b_wi6, ↓b_l140, ↓b_i140, ↓b_wi140, ↓b_l141, ↓b_i141, ↓b_wi141, ↓b_l142, ↓b_i142, ↓b_wi142, ↓b_l143, ↓b_i143, ↓b_wi143, ↓b_l144, ↓b_j144, ↓b_wj144, ↓b_l145, ↓b_j145, ↓b_wj145, ↓b_l146, ↓b_i146, ↓b_wi146, ↓b_l147, ↓b_i147, ↓b_wi147, ↓b_l148, ↓b_i148, ↓b_wi148, ↓b_l149, ↓b_i149, ↓b_wi149, ↓b_l150, ↓b_j150, ↓b_wj150, ↓b_l151, ↓b_i151, ↓b_wi151, ↓b_l152, ↓b_j152, ↓b_wj152, ↓b_l153, ↓b_i153, ↓b_wi153, ↓b_l154, ↓b_i154, ↓b_wi154, ↓b_l155, ↓b_j155, ↓b_wj155, ↓b_l156, ↓b_j156, ↓b_wj156, ↓b_l138, ↓b_j138, ↓b_wj138, ↓b_a5, ↓b_a13, ↓b_a44, ↓b_lA, ↓b_aA_0, ↓b_aA_1, ↓b_iA_2, ↓b_wiA_2, ↓b_iA_4, ↓b_wiA_4, ↓b_iA_5, ↓b_wiA_5, ↓b_iA_6, ↓b_wiA_6, ↓b_jA_3, ↓b_wjA_3, ↓b_lT, ↓b_lTc, ↓b_aT, ↓b_iT, ↓b_wiT, ↓b_iTc, ↓b_wiTc, ↓b_lW, ↓b_lWc, ↓b_aW, ↓b_iW, ↓b_wiW, ↓b_jWc, ↓b_wjWc, ↓b_rt, ↓b_ru, ↓b_wt, ↓b_wu, ↓b_0l, ↓b_0, ↓b_1, ↓b_2, m_tk, ↓reduceIte, cond_true, cond_false, Option.bind_some, e_Md_takes_23, ↓show am_ix 5 = some 5 from rfl, g144, ↓bI y1, m_b0, i_11, i_01, i_1_0, i_0_1, not_true, not_false_eq_true, if_true, if_false, Bool.true_eq_false, Bool.false_eq_true, decide_true, decide_false]
    rfl
end MH
