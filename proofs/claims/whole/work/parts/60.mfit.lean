/-! THE MODEL EVALUATES AND FITS -/
section MG
variable {xs : List Int32} {t u c s d n B self : Nat} {w : Nat → Int32} {va : Nat → sTm}
theorem m_evaluate {f : mF} {g : mG} {p j : Nat} (hd : 5 ≤ d) (hn : n ≤ 60) (h6 : self < 6) (hV : ∀ v, v < 6 → vV (va v)) (hx : tX f B n w) (hg : ∀ v, v < 6 → g 152 v = mTh (va v)) (h : xp w n 4 p j) : ∃ f' g', am_Y d 128 [.ref 139, .int (nI (B + p)), .int (nI self)] (mM xs f g t u c s) = some (.inl (some (.long (mTh (ev w va self 4 p).1))), mM xs f' g' t u c s) ∧ f' 139 20 = (if (ev w va self 4 p).1.1 < 9 then 0 else nI ((ev w va self 4 p).1.1 - 10)) ∧ ((ev w va self 4 p).1.1 < 9 → f' 139 19 = nI (B + j)) ∧ fM 0 f f' ∧ gM 0 g g' := by
  obtain ⟨d, rfl⟩ : ∃ e, d = e + 1 := ⟨d - 1, by omega⟩
  have hpj := xp_n 4 h
  have fm1 : fM 0 f (m_u f 139 19 (nI (B + p))) := fM_u (fM_r 0 f) (by omega)
  obtain ⟨a1, a2, a3, a4⟩ := ev_all (va := va) h6 hV 4 h
  obtain ⟨e1, e2⟩ := m_evE (xs := xs) (t := t) (u := u) (c := c) (s := s) (show 4 ≤ d by omega) hn h6 hV 4 0 0 p j (f := m_u f 139 19 (nI (B + p))) (g := g) rfl (by omega) (tX_f hx fm1) hg h (m_uu _)
  have st : am_Y (d + 1) 128 [.ref 139, .int (nI (B + p)), .int (nI self)] (mM xs f g t u c s) = am_X (am_Y d) k_Md_evaluate 10 [(0, .ref 139), (2, .int (nI self)), (3, .int (nI 0)), (4, .int (nI 0))] [] (mM xs (m_u f 139 19 (nI (B + p))) g t u c s) := by
    simp (maxSteps := 4000000) (disch := first | omega | assumption) only [↓b_ix, ↓b_l3, ↓b_a3_0, ↓b_a3_1, ↓b_a3_2, ↓b_l4, ↓b_a4_0, ↓b_a4_1, ↓b_a4_2, ↓b_a4_3, ↓b_l129, ↓b_a129_0, ↓b_l130, ↓b_i130_1, ↓b_wi130_1, ↓b_l133, ↓b_a133_0, ↓b_a133_1, ↓b_i133_2, ↓b_wi133_2, ↓b_j133_3, ↓b_wj133_3, ↓b_i133_4, ↓b_wi133_4, ↓b_l134, ↓b_a134_0, ↓b_a134_1, ↓b_i134_2, ↓b_wi134_2, ↓b_i134_3, ↓b_wi134_3, ↓b_l135, ↓b_i135_1, ↓b_wi135_1, ↓b_l139, ↓b_a139_0, ↓b_a139_1, ↓b_a139_2, ↓b_a139_3, ↓b_a139_4, ↓b_a139_5, ↓b_a139_6, ↓b_a139_7, ↓b_a139_8, ↓b_a139_9, ↓b_a139_10, ↓b_a139_11, ↓b_a139_12, ↓b_a139_13, ↓b_a139_14, ↓b_i139_15, ↓b_wi139_15, ↓b_i139_16, ↓b_wi139_16, ↓b_i139_17, ↓b_wi139_17, ↓b_a139_18, ↓b_i139_19, ↓b_wi139_19, ↓b_i139_20, ↓b_wi139_20, ↓b_i139_21, ↓b_wi139_21, ↓b_l6, ↓b_i6, ↓b_wi6, ↓b_l140, ↓b_i140, ↓b_wi140, ↓b_l141, ↓b_i141, ↓b_wi141, ↓b_l142, ↓b_i142, ↓b_wi142, ↓b_l143, ↓b_i143, ↓b_wi143, ↓b_l144, ↓b_j144, ↓b_wj144, ↓b_l145, ↓b_j145, ↓b_wj145, ↓b_l146, ↓b_i146, ↓b_wi146, ↓b_l147, ↓b_i147, ↓b_wi147, ↓b_l148, ↓b_i148, ↓b_wi148, ↓b_l149, ↓b_i149, ↓b_wi149, ↓b_l150, ↓b_j150, ↓b_wj150, ↓b_l151, ↓b_i151, ↓b_wi151, ↓b_l152, ↓b_j152, ↓b_wj152, ↓b_l153, ↓b_i153, ↓b_wi153, ↓b_l154, ↓b_i154, ↓b_wi154, ↓b_l155, ↓b_j155, ↓b_wj155, ↓b_l156, ↓b_j156, ↓b_wj156, ↓b_l138, ↓b_j138, ↓b_wj138, ↓b_a5, ↓b_a13, ↓b_a44, ↓b_lA, ↓b_aA_0, ↓b_aA_1, ↓b_iA_2, ↓b_wiA_2, ↓b_iA_4, ↓b_wiA_4, ↓b_iA_5, ↓b_wiA_5, ↓b_iA_6, ↓b_wiA_6, ↓b_jA_3, ↓b_wjA_3, ↓b_lT, ↓b_lTc, ↓b_aT, ↓b_iT, ↓b_wiT, ↓b_iTc, ↓b_wiTc, ↓b_lW, ↓b_lWc, ↓b_aW, ↓b_iW, ↓b_wiW, ↓b_jWc, ↓b_wjWc, ↓b_rt, ↓b_ru, ↓b_wt, ↓b_wu, ↓b_0l, ↓b_0, ↓b_1, ↓b_2, m_tk, ↓reduceIte, cond_true, cond_false, Option.bind_some, y_Md_evaluate, e_Md_evaluate_0, e_Md_evaluate_56, e_Md_evaluate_87, e_Md_evaluate_106, e_Md_evaluate_143, e_Md_evaluate_144, e_Md_evaluate_179, e_Md_evaluate_188, e_Md_evaluate_210, e_Md_evaluate_213, e_Md_evaluate_225, e_Md_evaluate_240, e_Md_evaluate_241, e_Md_evaluate_247, e_Md_evaluate_253]
    rfl
  by_cases b : (ev w va self 4 p).1.1 < 9
  · obtain ⟨f', g', it', y1, y2, y3, y4, y5⟩ := e1 b
    have v0 := mTh_0 a1
    refine ⟨m_u f' 139 20 0, g', ?_, by rw [m_uu, if_pos b], fun _ => by rw [m_un (by decide)]; exact y3, fM_u (fM_t fm1 y4 (Nat.le_refl 0)) (by decide), y5⟩
    rw [st, y2, show nI 0 = 0 from rfl]
    simp (maxSteps := 4000000) (disch := first | omega | assumption) only [↓b_ix, ↓b_l3, ↓b_a3_0, ↓b_a3_1, ↓b_a3_2, ↓b_l4, ↓b_a4_0, ↓b_a4_1, ↓b_a4_2, ↓b_a4_3, ↓b_l129, ↓b_a129_0, ↓b_l130, ↓b_i130_1, ↓b_wi130_1, ↓b_l133, ↓b_a133_0, ↓b_a133_1, ↓b_i133_2, ↓b_wi133_2, ↓b_j133_3, ↓b_wj133_3, ↓b_i133_4, ↓b_wi133_4, ↓b_l134, ↓b_a134_0, ↓b_a134_1, ↓b_i134_2, ↓b_wi134_2, ↓b_i134_3, ↓b_wi134_3, ↓b_l135, ↓b_i135_1, ↓b_wi135_1, ↓b_l139, ↓b_a139_0, ↓b_a139_1, ↓b_a139_2, ↓b_a139_3, ↓b_a139_4, ↓b_a139_5, ↓b_a139_6, ↓b_a139_7, ↓b_a139_8, ↓b_a139_9, ↓b_a139_10, ↓b_a139_11, ↓b_a139_12, ↓b_a139_13, ↓b_a139_14, ↓b_i139_15, ↓b_wi139_15, ↓b_i139_16, ↓b_wi139_16, ↓b_i139_17, ↓b_wi139_17, ↓b_a139_18, ↓b_i139_19, ↓b_wi139_19, ↓b_i139_20, ↓b_wi139_20, ↓b_i139_21, ↓b_wi139_21, ↓b_l6, ↓b_i6, ↓b_wi6, ↓b_l140, ↓b_i140, ↓b_wi140, ↓b_l141, ↓b_i141, ↓b_wi141, ↓b_l142, ↓b_i142, ↓b_wi142, ↓b_l143, ↓b_i143, ↓b_wi143, ↓b_l144, ↓b_j144, ↓b_wj144, ↓b_l145, ↓b_j145, ↓b_wj145, ↓b_l146, ↓b_i146, ↓b_wi146, ↓b_l147, ↓b_i147, ↓b_wi147, ↓b_l148, ↓b_i148, ↓b_wi148, ↓b_l149, ↓b_i149, ↓b_wi149, ↓b_l150, ↓b_j150, ↓b_wj150, ↓b_l151, ↓b_i151, ↓b_wi151, ↓b_l152, ↓b_j152, ↓b_wj152, ↓b_l153, ↓b_i153, ↓b_wi153, ↓b_l154, ↓b_i154, ↓b_wi154, ↓b_l155, ↓b_j155, ↓b_wj155, ↓b_l156, ↓b_j156, ↓b_wj156, ↓b_l138, ↓b_j138, ↓b_wj138, ↓b_a5, ↓b_a13, ↓b_a44, ↓b_lA, ↓b_aA_0, ↓b_aA_1, ↓b_iA_2, ↓b_wiA_2, ↓b_iA_4, ↓b_wiA_4, ↓b_iA_5, ↓b_wiA_5, ↓b_iA_6, ↓b_wiA_6, ↓b_jA_3, ↓b_wjA_3, ↓b_lT, ↓b_lTc, ↓b_aT, ↓b_iT, ↓b_wiT, ↓b_iTc, ↓b_wiTc, ↓b_lW, ↓b_lWc, ↓b_aW, ↓b_iW, ↓b_wiW, ↓b_jWc, ↓b_wjWc, ↓b_rt, ↓b_ru, ↓b_wt, ↓b_wu, ↓b_0l, ↓b_0, ↓b_1, ↓b_2, m_tk, ↓reduceIte, cond_true, cond_false, Option.bind_some, e_Md_evaluate_0, e_Md_evaluate_56, e_Md_evaluate_87, e_Md_evaluate_106, e_Md_evaluate_143, e_Md_evaluate_144, e_Md_evaluate_179, e_Md_evaluate_188, e_Md_evaluate_210, e_Md_evaluate_213, e_Md_evaluate_225, e_Md_evaluate_240, e_Md_evaluate_241, e_Md_evaluate_247, e_Md_evaluate_253, i_1_0, v0, b, show ((0 : Int32) ≤ 0) = True from eq_true (by decide), i_11, i_01, i_1_0, i_0_1, not_true, not_false_eq_true, if_true, if_false, Bool.true_eq_false, Bool.false_eq_true, decide_true, decide_false]
  · obtain ⟨f', g', y1, y2, y3, y4⟩ := e2 b
    refine ⟨f', g', ?_, by rw [y2, if_neg b], fun hh => absurd hh b, fM_t fm1 y3 (Nat.le_refl 0), y4⟩
    rw [st, y1, mnlt b a1]
/-- what fitting leaves as it was -/
def fN (f f' : mF) : Prop := ∀ x k, ¬ (x = 139 ∧ k = 19) → f' x k = f x k
def gN (g g' : mG) : Prop := ∀ x k, ¬ (x = 152 ∧ k < 6) → g' x k = g x k
theorem fN_r (f : mF) : fN f f := fun _ _ _ => rfl
theorem gN_r (g : mG) : gN g g := fun _ _ _ => rfl
theorem fN_t {f f' f'' : mF} (h : fN f f') (h' : fN f' f'') : fN f f'' := fun x k a => (h' x k a).trans (h x k a)
theorem gN_t {f f' f'' : mG} (h : gN f f') (h' : gN f' f'') : gN f f'' := fun x k a => (h' x k a).trans (h x k a)
theorem fN_u {f f' : mF} {v : Int32} (h : fN f f') : fN f (m_u f' 139 19 v) := fun x j a => by rw [m_un (by omega)]; exact h x j a
theorem tX_N {f f' : mF} (h : tX f B n w) (hf : fN f f') : tX f' B n w := ⟨h.1, fun k hk => by rw [hf _ _ (by omega)]; exact h.2 k hk⟩
theorem gv_u {g : mG} {v : Nat} {x : sTm} (h : ∀ k, k < 6 → g 152 k = mTh (va k)) (hv : v < 6) : ∀ k, k < 6 → m_w g 152 v (mTh x) 152 k = mTh (vset va v x k) := by
  intro k hk
  unfold vset
  by_cases e : k = v
  · subst e; rw [m_ww, if_pos rfl]
  · rw [m_wn (by omega), if_neg e]; exact h k hk
/-- a simple pattern -/
theorem m_fit0 {f : mF} {g : mG} {p j i b N : Nat} {l : List Nat} (hd : 4 ≤ d) (hn : n ≤ 60) (hV : ∀ v, v < 6 → vV (va v)) (hx : tX f B n w) (hg : ∀ v, v < 6 → g 152 v = mTh (va v)) (hT : tv i l) (hb : b < 2 * sN i - 1) (h : y0 w n p j) (hat : f 139 19 = nI (B + p)) (hN : N < 100) :
    ((pt0 w p (sS i b, sT i b l) va).1 = false → ∃ f' g', am_X (am_Y d) k_Md_fits 57 [(0, .ref 139), (2, .long (lN (tM i l))), (4, .int (nI (N + 1))), (5, .int (nI b)), (6, .int (nI (sF i b))), (7, .int (w p))] [] (mM xs f g t u c s) = some (.inl (some (.int 0)), mM xs f' g' t u c s) ∧ fN f f' ∧ gN g g') ∧
    ((pt0 w p (sS i b, sT i b l) va).1 = true → ∃ f' g', am_X (am_Y d) k_Md_fits 57 [(0, .ref 139), (2, .long (lN (tM i l))), (4, .int (nI (N + 1))), (5, .int (nI b)), (6, .int (nI (sF i b))), (7, .int (w p))] [] (mM xs f g t u c s) = am_X (am_Y d) k_Md_fits 14 [(0, .ref 139), (2, .long (lN (tM i l))), (4, .int (nI N)), (5, .int (nI (b + sW i b))), (6, .int (nI (sF i b + sN (sS i b))))] [] (mM xs f' g' t u c s) ∧ f' 139 19 = nI (B + j) ∧ fN f f' ∧ gN g g' ∧ ∀ v, v < 6 → g' 152 v = mTh ((pt0 w p (sS i b, sT i b l) va).2.2 v)) := by
  have h1 : 1 ≤ d := by omega
  have h2 : 2 ≤ d := by omega
  have hB := hx.1
  have hp := h.1
  have hj := y0_n h
  have h4 := sN_le i
  have o40 : ¬ w p = 40 := fun e => h.2.1 (.inl e)
  have hsub := tv_sub hT hb
  have hs4 := sN_le (sS i b)
  have pa1 := t_part (d := d) (M := mM xs f g t u c s) (show 3 ≤ d by omega) hT hb
  have b1 : nI (B + p) + 1 = nI (B + (p + 1)) := by rw [nI_1, Nat.add_assoc]
  have dm : nI (N + 1) + -1 = nI N := (Int32.sub_eq_add_neg _ _).symm.trans (nI_pred N)
  have hpart : lN (tM (sS i b) (sT i b l)) = mTh (sS i b, sT i b l) := (mTh_t (v := (sS i b, sT i b l)) hsub).symm
  rw [hpart] at pa1
  have cs := mTh_eq (x := (sS i b, sT i b l)) (y := (sS i b, sT i b l)) hsub hsub
  have cz0 := mTh_0 (v := (sS i b, sT i b l)) (.inl hsub)
  have hs9 := hsub.1
  -- the end of a piece that fits
  have fin : ∀ (f' : mF) (g' : mG), am_X (am_Y d) k_Md_fits 199 [(0, .ref 139), (2, .long (lN (tM i l))), (4, .int (nI (N + 1))), (5, .int (nI b)), (6, .int (nI (sF i b))), (8, .long (mTh (sS i b, sT i b l)))] [] (mM xs f' g' t u c s) = am_X (am_Y d) k_Md_fits 14 [(0, .ref 139), (2, .long (lN (tM i l))), (4, .int (nI N)), (5, .int (nI (b + sW i b))), (6, .int (nI (sF i b + sN (sS i b))))] [] (mM xs f' g' t u c s) := by
    intro f' g'
    have lv : am_Y d 114 [.long (mTh (sS i b, sT i b l))] (mM xs f' g' t u c s) = some (.inl (some (.int (nI (sN (sS i b))))), mM xs f' g' t u c s) := by rw [← hpart]; exact t_leaves h1 hsub
    simp (maxSteps := 4000000) (disch := first | omega | assumption) only [↓b_ix, ↓b_l3, ↓b_a3_0, ↓b_a3_1, ↓b_a3_2, ↓b_l4, ↓b_a4_0, ↓b_a4_1, ↓b_a4_2, ↓b_a4_3, ↓b_l129, ↓b_a129_0, ↓b_l130, ↓b_i130_1, ↓b_wi130_1, ↓b_l133, ↓b_a133_0, ↓b_a133_1, ↓b_i133_2, ↓b_wi133_2, ↓b_j133_3, ↓b_wj133_3, ↓b_i133_4, ↓b_wi133_4, ↓b_l134, ↓b_a134_0, ↓b_a134_1, ↓b_i134_2, ↓b_wi134_2, ↓b_i134_3, ↓b_wi134_3, ↓b_l135, ↓b_i135_1, ↓b_wi135_1, ↓b_l139, ↓b_a139_0, ↓b_a139_1, ↓b_a139_2, ↓b_a139_3, ↓b_a139_4, ↓b_a139_5, ↓b_a139_6, ↓b_a139_7, ↓b_a139_8, ↓b_a139_9, ↓b_a139_10, ↓b_a139_11, ↓b_a139_12, ↓b_a139_13, ↓b_a139_14, ↓b_i139_15, ↓b_wi139_15, ↓b_i139_16, ↓b_wi139_16, ↓b_i139_17, ↓b_wi139_17, ↓b_a139_18, ↓b_i139_19, ↓b_wi139_19, ↓b_i139_20, ↓b_wi139_20, ↓b_i139_21, ↓b_wi139_21, ↓b_l6, ↓b_i6, ↓b_wi6, ↓b_l140, ↓b_i140, ↓b_wi140, ↓b_l141, ↓b_i141, ↓b_wi141, ↓b_l142, ↓b_i142, ↓b_wi142, ↓b_l143, ↓b_i143, ↓b_wi143, ↓b_l144, ↓b_j144, ↓b_wj144, ↓b_l145, ↓b_j145, ↓b_wj145, ↓b_l146, ↓b_i146, ↓b_wi146, ↓b_l147, ↓b_i147, ↓b_wi147, ↓b_l148, ↓b_i148, ↓b_wi148, ↓b_l149, ↓b_i149, ↓b_wi149, ↓b_l150, ↓b_j150, ↓b_wj150, ↓b_l151, ↓b_i151, ↓b_wi151, ↓b_l152, ↓b_j152, ↓b_wj152, ↓b_l153, ↓b_i153, ↓b_wi153, ↓b_l154, ↓b_i154, ↓b_wi154, ↓b_l155, ↓b_j155, ↓b_wj155, ↓b_l156, ↓b_j156, ↓b_wj156, ↓b_l138, ↓b_j138, ↓b_wj138, ↓b_a5, ↓b_a13, ↓b_a44, ↓b_lA, ↓b_aA_0, ↓b_aA_1, ↓b_iA_2, ↓b_wiA_2, ↓b_iA_4, ↓b_wiA_4, ↓b_iA_5, ↓b_wiA_5, ↓b_iA_6, ↓b_wiA_6, ↓b_jA_3, ↓b_wjA_3, ↓b_lT, ↓b_lTc, ↓b_aT, ↓b_iT, ↓b_wiT, ↓b_iTc, ↓b_wiTc, ↓b_lW, ↓b_lWc, ↓b_aW, ↓b_iW, ↓b_wiW, ↓b_jWc, ↓b_wjWc, ↓b_rt, ↓b_ru, ↓b_wt, ↓b_wu, ↓b_0l, ↓b_0, ↓b_1, ↓b_2, m_tk, ↓reduceIte, cond_true, cond_false, Option.bind_some, e_Md_fits_199, e_Md_fits_223, ↓bI (t_bits h2 hT hb), ↓bI lv, dm, nI_add]
  unfold pt0
  by_cases a1 : w p = 95
  · rw [if_pos a1]
    have ej := y0_39 h (.inl a1)
    refine ⟨fun hh => (nomatch (hh : true = false)), fun _ => ⟨m_u f 139 19 (nI (B + j)), g, ?_, m_uu _, fN_u (fN_r f), gN_r g, hg⟩⟩
    rw [← fin, ej]
    have v95 : vOf 95 < 0 := by decide
    rw [a1]
    simp (maxSteps := 4000000) (disch := first | omega | assumption) only [↓b_ix, ↓b_l3, ↓b_a3_0, ↓b_a3_1, ↓b_a3_2, ↓b_l4, ↓b_a4_0, ↓b_a4_1, ↓b_a4_2, ↓b_a4_3, ↓b_l129, ↓b_a129_0, ↓b_l130, ↓b_i130_1, ↓b_wi130_1, ↓b_l133, ↓b_a133_0, ↓b_a133_1, ↓b_i133_2, ↓b_wi133_2, ↓b_j133_3, ↓b_wj133_3, ↓b_i133_4, ↓b_wi133_4, ↓b_l134, ↓b_a134_0, ↓b_a134_1, ↓b_i134_2, ↓b_wi134_2, ↓b_i134_3, ↓b_wi134_3, ↓b_l135, ↓b_i135_1, ↓b_wi135_1, ↓b_l139, ↓b_a139_0, ↓b_a139_1, ↓b_a139_2, ↓b_a139_3, ↓b_a139_4, ↓b_a139_5, ↓b_a139_6, ↓b_a139_7, ↓b_a139_8, ↓b_a139_9, ↓b_a139_10, ↓b_a139_11, ↓b_a139_12, ↓b_a139_13, ↓b_a139_14, ↓b_i139_15, ↓b_wi139_15, ↓b_i139_16, ↓b_wi139_16, ↓b_i139_17, ↓b_wi139_17, ↓b_a139_18, ↓b_i139_19, ↓b_wi139_19, ↓b_i139_20, ↓b_wi139_20, ↓b_i139_21, ↓b_wi139_21, ↓b_l6, ↓b_i6, ↓b_wi6, ↓b_l140, ↓b_i140, ↓b_wi140, ↓b_l141, ↓b_i141, ↓b_wi141, ↓b_l142, ↓b_i142, ↓b_wi142, ↓b_l143, ↓b_i143, ↓b_wi143, ↓b_l144, ↓b_j144, ↓b_wj144, ↓b_l145, ↓b_j145, ↓b_wj145, ↓b_l146, ↓b_i146, ↓b_wi146, ↓b_l147, ↓b_i147, ↓b_wi147, ↓b_l148, ↓b_i148, ↓b_wi148, ↓b_l149, ↓b_i149, ↓b_wi149, ↓b_l150, ↓b_j150, ↓b_wj150, ↓b_l151, ↓b_i151, ↓b_wi151, ↓b_l152, ↓b_j152, ↓b_wj152, ↓b_l153, ↓b_i153, ↓b_wi153, ↓b_l154, ↓b_i154, ↓b_wi154, ↓b_l155, ↓b_j155, ↓b_wj155, ↓b_l156, ↓b_j156, ↓b_wj156, ↓b_l138, ↓b_j138, ↓b_wj138, ↓b_a5, ↓b_a13, ↓b_a44, ↓b_lA, ↓b_aA_0, ↓b_aA_1, ↓b_iA_2, ↓b_wiA_2, ↓b_iA_4, ↓b_wiA_4, ↓b_iA_5, ↓b_wiA_5, ↓b_iA_6, ↓b_wiA_6, ↓b_jA_3, ↓b_wjA_3, ↓b_lT, ↓b_lTc, ↓b_aT, ↓b_iT, ↓b_wiT, ↓b_iTc, ↓b_wiTc, ↓b_lW, ↓b_lWc, ↓b_aW, ↓b_iW, ↓b_wiW, ↓b_jWc, ↓b_wjWc, ↓b_rt, ↓b_ru, ↓b_wt, ↓b_wu, ↓b_0l, ↓b_0, ↓b_1, ↓b_2, m_tk, ↓reduceIte, cond_true, cond_false, Option.bind_some, e_Md_fits_57, e_Md_fits_94, e_Md_fits_128, e_Md_fits_133, show ¬ (95 : Int32) = 40 by decide, ↓bJ pa1, ↓bI (c_mvariableOf h2), v95, hat, b1, i_11, i_01, i_1_0, i_0_1, not_true, not_false_eq_true, if_true, if_false, Bool.true_eq_false, Bool.false_eq_true, decide_true, decide_false]
  · rw [if_neg a1]
    by_cases a2 : isV (w p) = true
    · rw [if_pos a2]
      have ej := y0_39 h (.inr a2)
      obtain ⟨v1, v2⟩ := vN_s a2
      have nn : ¬ nI (vN (w p)) < 0 := nI_pos (by omega)
      have c0 := mTh_V (hV _ v2)
      have gv := hg _ v2
      by_cases a3 : (va (vN (w p))).1 < 9
      · rw [if_pos a3]
        have hva : tv (va (vN (w p))).1 (va (vN (w p))).2 := by
          rcases hV _ v2 with hh | hh
          · exact hh
          · rw [hh] at a3; exact absurd a3 (by decide)
        have sm := m_simple (xs := xs) (t := t) (u := u) (c := c) (s := s) (self := 0) (va := va) (show 3 ≤ d by omega) hn (by decide) hx hg hV (y0_x h a1)
        have es : evS w va 0 p = va (vN (w p)) := by
          unfold evS
          have w39 : ¬ w p = 39 := by intro hh; rw [hh] at a2; exact absurd a2 (by decide)
          have wA : ¬ isA (w p) = true := by
            intro hh
            have p1 := rng (of_decide_eq_true hh)
            rw [show (97 : Int32).toInt = 97 from rfl, show (104 : Int32).toInt = 104 from rfl] at p1
            rcases of_decide_eq_true a2 with hh | hh
            · have p2 := rng hh; rw [show (69 : Int32).toInt = 69 from rfl] at p2; omega
            · rw [hh, show (83 : Int32).toInt = 83 from rfl] at p1; omega
          have wD : ¬ isD (w p) = true := by
            intro hh
            have p1 := rng (of_decide_eq_true hh)
            rw [show (48 : Int32).toInt = 48 from rfl, show (57 : Int32).toInt = 57 from rfl] at p1
            rcases of_decide_eq_true a2 with hh | hh
            · have p2 := rng hh; rw [show (65 : Int32).toInt = 65 from rfl] at p2; omega
            · rw [hh, show (83 : Int32).toInt = 83 from rfl] at p1; omega
          rw [if_neg w39, if_neg wD, if_neg wA, if_neg h.2.2.1, if_pos a3]
        rw [es, show nI 0 = 0 from rfl] at sm
        have ce := mTh_eq hva (y := (sS i b, sT i b l)) hsub
        by_cases a4 : va (vN (w p)) = (sS i b, sT i b l)
        · refine ⟨fun hh => absurd (show decide (va (vN (w p)) = (sS i b, sT i b l)) = false from hh) (by simp [a4]), fun _ => ⟨m_u f 139 19 (nI (B + j)), g, ?_, m_uu _, fN_u (fN_r f), gN_r g, hg⟩⟩
          rw [← fin]
          simp (maxSteps := 4000000) (disch := first | omega | assumption) only [↓b_ix, ↓b_l3, ↓b_a3_0, ↓b_a3_1, ↓b_a3_2, ↓b_l4, ↓b_a4_0, ↓b_a4_1, ↓b_a4_2, ↓b_a4_3, ↓b_l129, ↓b_a129_0, ↓b_l130, ↓b_i130_1, ↓b_wi130_1, ↓b_l133, ↓b_a133_0, ↓b_a133_1, ↓b_i133_2, ↓b_wi133_2, ↓b_j133_3, ↓b_wj133_3, ↓b_i133_4, ↓b_wi133_4, ↓b_l134, ↓b_a134_0, ↓b_a134_1, ↓b_i134_2, ↓b_wi134_2, ↓b_i134_3, ↓b_wi134_3, ↓b_l135, ↓b_i135_1, ↓b_wi135_1, ↓b_l139, ↓b_a139_0, ↓b_a139_1, ↓b_a139_2, ↓b_a139_3, ↓b_a139_4, ↓b_a139_5, ↓b_a139_6, ↓b_a139_7, ↓b_a139_8, ↓b_a139_9, ↓b_a139_10, ↓b_a139_11, ↓b_a139_12, ↓b_a139_13, ↓b_a139_14, ↓b_i139_15, ↓b_wi139_15, ↓b_i139_16, ↓b_wi139_16, ↓b_i139_17, ↓b_wi139_17, ↓b_a139_18, ↓b_i139_19, ↓b_wi139_19, ↓b_i139_20, ↓b_wi139_20, ↓b_i139_21, ↓b_wi139_21, ↓b_l6, ↓b_i6, ↓b_wi6, ↓b_l140, ↓b_i140, ↓b_wi140, ↓b_l141, ↓b_i141, ↓b_wi141, ↓b_l142, ↓b_i142, ↓b_wi142, ↓b_l143, ↓b_i143, ↓b_wi143, ↓b_l144, ↓b_j144, ↓b_wj144, ↓b_l145, ↓b_j145, ↓b_wj145, ↓b_l146, ↓b_i146, ↓b_wi146, ↓b_l147, ↓b_i147, ↓b_wi147, ↓b_l148, ↓b_i148, ↓b_wi148, ↓b_l149, ↓b_i149, ↓b_wi149, ↓b_l150, ↓b_j150, ↓b_wj150, ↓b_l151, ↓b_i151, ↓b_wi151, ↓b_l152, ↓b_j152, ↓b_wj152, ↓b_l153, ↓b_i153, ↓b_wi153, ↓b_l154, ↓b_i154, ↓b_wi154, ↓b_l155, ↓b_j155, ↓b_wj155, ↓b_l156, ↓b_j156, ↓b_wj156, ↓b_l138, ↓b_j138, ↓b_wj138, ↓b_a5, ↓b_a13, ↓b_a44, ↓b_lA, ↓b_aA_0, ↓b_aA_1, ↓b_iA_2, ↓b_wiA_2, ↓b_iA_4, ↓b_wiA_4, ↓b_iA_5, ↓b_wiA_5, ↓b_iA_6, ↓b_wiA_6, ↓b_jA_3, ↓b_wjA_3, ↓b_lT, ↓b_lTc, ↓b_aT, ↓b_iT, ↓b_wiT, ↓b_iTc, ↓b_wiTc, ↓b_lW, ↓b_lWc, ↓b_aW, ↓b_iW, ↓b_wiW, ↓b_jWc, ↓b_wjWc, ↓b_rt, ↓b_ru, ↓b_wt, ↓b_wu, ↓b_0l, ↓b_0, ↓b_1, ↓b_2, m_tk, ↓reduceIte, cond_true, cond_false, Option.bind_some, e_Md_fits_57, e_Md_fits_94, e_Md_fits_128, e_Md_fits_133, e_Md_fits_155, e_Md_fits_182, o40, ↓bJ pa1, ↓bI (c_mvariableOf h2), v1, nn, gv, c0, a3, a1, hat, ↓bJ sm, ce, a4, cs, cz0, hs9, i_1_0, i_11, i_01, i_1_0, i_0_1, not_true, not_false_eq_true, if_true, if_false, Bool.true_eq_false, Bool.false_eq_true, decide_true, decide_false]
        · refine ⟨fun _ => ⟨m_u f 139 19 (nI (B + j)), g, ?_, fN_u (fN_r f), gN_r g⟩, fun hh => absurd (of_decide_eq_true hh) a4⟩
          simp (maxSteps := 4000000) (disch := first | omega | assumption) only [↓b_ix, ↓b_l3, ↓b_a3_0, ↓b_a3_1, ↓b_a3_2, ↓b_l4, ↓b_a4_0, ↓b_a4_1, ↓b_a4_2, ↓b_a4_3, ↓b_l129, ↓b_a129_0, ↓b_l130, ↓b_i130_1, ↓b_wi130_1, ↓b_l133, ↓b_a133_0, ↓b_a133_1, ↓b_i133_2, ↓b_wi133_2, ↓b_j133_3, ↓b_wj133_3, ↓b_i133_4, ↓b_wi133_4, ↓b_l134, ↓b_a134_0, ↓b_a134_1, ↓b_i134_2, ↓b_wi134_2, ↓b_i134_3, ↓b_wi134_3, ↓b_l135, ↓b_i135_1, ↓b_wi135_1, ↓b_l139, ↓b_a139_0, ↓b_a139_1, ↓b_a139_2, ↓b_a139_3, ↓b_a139_4, ↓b_a139_5, ↓b_a139_6, ↓b_a139_7, ↓b_a139_8, ↓b_a139_9, ↓b_a139_10, ↓b_a139_11, ↓b_a139_12, ↓b_a139_13, ↓b_a139_14, ↓b_i139_15, ↓b_wi139_15, ↓b_i139_16, ↓b_wi139_16, ↓b_i139_17, ↓b_wi139_17, ↓b_a139_18, ↓b_i139_19, ↓b_wi139_19, ↓b_i139_20, ↓b_wi139_20, ↓b_i139_21, ↓b_wi139_21, ↓b_l6, ↓b_i6, ↓b_wi6, ↓b_l140, ↓b_i140, ↓b_wi140, ↓b_l141, ↓b_i141, ↓b_wi141, ↓b_l142, ↓b_i142, ↓b_wi142, ↓b_l143, ↓b_i143, ↓b_wi143, ↓b_l144, ↓b_j144, ↓b_wj144, ↓b_l145, ↓b_j145, ↓b_wj145, ↓b_l146, ↓b_i146, ↓b_wi146, ↓b_l147, ↓b_i147, ↓b_wi147, ↓b_l148, ↓b_i148, ↓b_wi148, ↓b_l149, ↓b_i149, ↓b_wi149, ↓b_l150, ↓b_j150, ↓b_wj150, ↓b_l151, ↓b_i151, ↓b_wi151, ↓b_l152, ↓b_j152, ↓b_wj152, ↓b_l153, ↓b_i153, ↓b_wi153, ↓b_l154, ↓b_i154, ↓b_wi154, ↓b_l155, ↓b_j155, ↓b_wj155, ↓b_l156, ↓b_j156, ↓b_wj156, ↓b_l138, ↓b_j138, ↓b_wj138, ↓b_a5, ↓b_a13, ↓b_a44, ↓b_lA, ↓b_aA_0, ↓b_aA_1, ↓b_iA_2, ↓b_wiA_2, ↓b_iA_4, ↓b_wiA_4, ↓b_iA_5, ↓b_wiA_5, ↓b_iA_6, ↓b_wiA_6, ↓b_jA_3, ↓b_wjA_3, ↓b_lT, ↓b_lTc, ↓b_aT, ↓b_iT, ↓b_wiT, ↓b_iTc, ↓b_wiTc, ↓b_lW, ↓b_lWc, ↓b_aW, ↓b_iW, ↓b_wiW, ↓b_jWc, ↓b_wjWc, ↓b_rt, ↓b_ru, ↓b_wt, ↓b_wu, ↓b_0l, ↓b_0, ↓b_1, ↓b_2, m_tk, ↓reduceIte, cond_true, cond_false, Option.bind_some, e_Md_fits_57, e_Md_fits_94, e_Md_fits_128, e_Md_fits_133, e_Md_fits_155, e_Md_fits_182, o40, ↓bJ pa1, ↓bI (c_mvariableOf h2), v1, nn, gv, c0, a3, a1, hat, ↓bJ sm, ce, a4, i_1_0, i_11, i_01, i_1_0, i_0_1, not_true, not_false_eq_true, if_true, if_false, Bool.true_eq_false, Bool.false_eq_true, decide_true, decide_false]
      · rw [if_neg a3]
        refine ⟨fun hh => (nomatch (hh : true = false)), fun _ => ⟨m_u f 139 19 (nI (B + j)), m_w g 152 (vN (w p)) (mTh (sS i b, sT i b l)), ?_, m_uu _, fN_u (fN_r f), fun x k a => m_wn (by omega), gv_u hg v2⟩⟩
        rw [← fin, ej]
        simp (maxSteps := 4000000) (disch := first | omega | assumption) only [↓b_ix, ↓b_l3, ↓b_a3_0, ↓b_a3_1, ↓b_a3_2, ↓b_l4, ↓b_a4_0, ↓b_a4_1, ↓b_a4_2, ↓b_a4_3, ↓b_l129, ↓b_a129_0, ↓b_l130, ↓b_i130_1, ↓b_wi130_1, ↓b_l133, ↓b_a133_0, ↓b_a133_1, ↓b_i133_2, ↓b_wi133_2, ↓b_j133_3, ↓b_wj133_3, ↓b_i133_4, ↓b_wi133_4, ↓b_l134, ↓b_a134_0, ↓b_a134_1, ↓b_i134_2, ↓b_wi134_2, ↓b_i134_3, ↓b_wi134_3, ↓b_l135, ↓b_i135_1, ↓b_wi135_1, ↓b_l139, ↓b_a139_0, ↓b_a139_1, ↓b_a139_2, ↓b_a139_3, ↓b_a139_4, ↓b_a139_5, ↓b_a139_6, ↓b_a139_7, ↓b_a139_8, ↓b_a139_9, ↓b_a139_10, ↓b_a139_11, ↓b_a139_12, ↓b_a139_13, ↓b_a139_14, ↓b_i139_15, ↓b_wi139_15, ↓b_i139_16, ↓b_wi139_16, ↓b_i139_17, ↓b_wi139_17, ↓b_a139_18, ↓b_i139_19, ↓b_wi139_19, ↓b_i139_20, ↓b_wi139_20, ↓b_i139_21, ↓b_wi139_21, ↓b_l6, ↓b_i6, ↓b_wi6, ↓b_l140, ↓b_i140, ↓b_wi140, ↓b_l141, ↓b_i141, ↓b_wi141, ↓b_l142, ↓b_i142, ↓b_wi142, ↓b_l143, ↓b_i143, ↓b_wi143, ↓b_l144, ↓b_j144, ↓b_wj144, ↓b_l145, ↓b_j145, ↓b_wj145, ↓b_l146, ↓b_i146, ↓b_wi146, ↓b_l147, ↓b_i147, ↓b_wi147, ↓b_l148, ↓b_i148, ↓b_wi148, ↓b_l149, ↓b_i149, ↓b_wi149, ↓b_l150, ↓b_j150, ↓b_wj150, ↓b_l151, ↓b_i151, ↓b_wi151, ↓b_l152, ↓b_j152, ↓b_wj152, ↓b_l153, ↓b_i153, ↓b_wi153, ↓b_l154, ↓b_i154, ↓b_wi154, ↓b_l155, ↓b_j155, ↓b_wj155, ↓b_l156, ↓b_j156, ↓b_wj156, ↓b_l138, ↓b_j138, ↓b_wj138, ↓b_a5, ↓b_a13, ↓b_a44, ↓b_lA, ↓b_aA_0, ↓b_aA_1, ↓b_iA_2, ↓b_wiA_2, ↓b_iA_4, ↓b_wiA_4, ↓b_iA_5, ↓b_wiA_5, ↓b_iA_6, ↓b_wiA_6, ↓b_jA_3, ↓b_wjA_3, ↓b_lT, ↓b_lTc, ↓b_aT, ↓b_iT, ↓b_wiT, ↓b_iTc, ↓b_wiTc, ↓b_lW, ↓b_lWc, ↓b_aW, ↓b_iW, ↓b_wiW, ↓b_jWc, ↓b_wjWc, ↓b_rt, ↓b_ru, ↓b_wt, ↓b_wu, ↓b_0l, ↓b_0, ↓b_1, ↓b_2, m_tk, ↓reduceIte, cond_true, cond_false, Option.bind_some, e_Md_fits_57, e_Md_fits_94, e_Md_fits_132, e_Md_fits_133, e_Md_fits_155, o40, ↓bJ pa1, ↓bI (c_mvariableOf h2), v1, nn, gv, c0, a3, a1, hat, b1, i_11, i_01, i_1_0, i_0_1, not_true, not_false_eq_true, if_true, if_false, Bool.true_eq_false, Bool.false_eq_true, decide_true, decide_false]
    · rw [if_neg a2]
      have a2' : isV (w p) = false := by simpa using a2
      have nn : vOf (w p) < 0 := by rw [vOf_neg]; exact a2'
      have hx0 := y0_x h a1
      have sm := m_simple (xs := xs) (t := t) (u := u) (c := c) (s := s) (self := 0) (va := va) (show 3 ≤ d by omega) hn (by decide) hx hg hV hx0
      rw [show nI 0 = 0 from rfl] at sm
      have hvt : tv (evS w va 0 p).1 (evS w va 0 p).2 := by
        have := vT_S (self := 0) (va := va) (by decide) hV hx0
        refine vT_9 this ?_
        unfold evS
        rcases hx0.2.2 with ⟨b, _⟩ | ⟨b0, b, _⟩
        · rw [if_pos b]; exact (by decide : 0 < 9)
        · rw [if_neg b0]
          rcases b with b | b | b | b
          · rw [if_pos b]; exact (by decide : 0 < 9)
          · by_cases b2 : isD (w p) = true
            · rw [if_pos b2]; exact (by decide : 0 < 9)
            · rw [if_neg b2, if_pos b]; exact (by decide : 0 < 9)
          · exact absurd b a2
          · exact absurd b h.2.2.1
      have ce := mTh_eq hvt (y := (sS i b, sT i b l)) hsub
      by_cases a4 : evS w va 0 p = (sS i b, sT i b l)
      · refine ⟨fun hh => absurd (show decide (evS w va 0 p = (sS i b, sT i b l)) = false from hh) (by simp [a4]), fun _ => ⟨m_u f 139 19 (nI (B + j)), g, ?_, m_uu _, fN_u (fN_r f), gN_r g, hg⟩⟩
        rw [← fin]
        simp (maxSteps := 4000000) (disch := first | omega | assumption) only [↓b_ix, ↓b_l3, ↓b_a3_0, ↓b_a3_1, ↓b_a3_2, ↓b_l4, ↓b_a4_0, ↓b_a4_1, ↓b_a4_2, ↓b_a4_3, ↓b_l129, ↓b_a129_0, ↓b_l130, ↓b_i130_1, ↓b_wi130_1, ↓b_l133, ↓b_a133_0, ↓b_a133_1, ↓b_i133_2, ↓b_wi133_2, ↓b_j133_3, ↓b_wj133_3, ↓b_i133_4, ↓b_wi133_4, ↓b_l134, ↓b_a134_0, ↓b_a134_1, ↓b_i134_2, ↓b_wi134_2, ↓b_i134_3, ↓b_wi134_3, ↓b_l135, ↓b_i135_1, ↓b_wi135_1, ↓b_l139, ↓b_a139_0, ↓b_a139_1, ↓b_a139_2, ↓b_a139_3, ↓b_a139_4, ↓b_a139_5, ↓b_a139_6, ↓b_a139_7, ↓b_a139_8, ↓b_a139_9, ↓b_a139_10, ↓b_a139_11, ↓b_a139_12, ↓b_a139_13, ↓b_a139_14, ↓b_i139_15, ↓b_wi139_15, ↓b_i139_16, ↓b_wi139_16, ↓b_i139_17, ↓b_wi139_17, ↓b_a139_18, ↓b_i139_19, ↓b_wi139_19, ↓b_i139_20, ↓b_wi139_20, ↓b_i139_21, ↓b_wi139_21, ↓b_l6, ↓b_i6, ↓b_wi6, ↓b_l140, ↓b_i140, ↓b_wi140, ↓b_l141, ↓b_i141, ↓b_wi141, ↓b_l142, ↓b_i142, ↓b_wi142, ↓b_l143, ↓b_i143, ↓b_wi143, ↓b_l144, ↓b_j144, ↓b_wj144, ↓b_l145, ↓b_j145, ↓b_wj145, ↓b_l146, ↓b_i146, ↓b_wi146, ↓b_l147, ↓b_i147, ↓b_wi147, ↓b_l148, ↓b_i148, ↓b_wi148, ↓b_l149, ↓b_i149, ↓b_wi149, ↓b_l150, ↓b_j150, ↓b_wj150, ↓b_l151, ↓b_i151, ↓b_wi151, ↓b_l152, ↓b_j152, ↓b_wj152, ↓b_l153, ↓b_i153, ↓b_wi153, ↓b_l154, ↓b_i154, ↓b_wi154, ↓b_l155, ↓b_j155, ↓b_wj155, ↓b_l156, ↓b_j156, ↓b_wj156, ↓b_l138, ↓b_j138, ↓b_wj138, ↓b_a5, ↓b_a13, ↓b_a44, ↓b_lA, ↓b_aA_0, ↓b_aA_1, ↓b_iA_2, ↓b_wiA_2, ↓b_iA_4, ↓b_wiA_4, ↓b_iA_5, ↓b_wiA_5, ↓b_iA_6, ↓b_wiA_6, ↓b_jA_3, ↓b_wjA_3, ↓b_lT, ↓b_lTc, ↓b_aT, ↓b_iT, ↓b_wiT, ↓b_iTc, ↓b_wiTc, ↓b_lW, ↓b_lWc, ↓b_aW, ↓b_iW, ↓b_wiW, ↓b_jWc, ↓b_wjWc, ↓b_rt, ↓b_ru, ↓b_wt, ↓b_wu, ↓b_0l, ↓b_0, ↓b_1, ↓b_2, m_tk, ↓reduceIte, cond_true, cond_false, Option.bind_some, e_Md_fits_57, e_Md_fits_94, e_Md_fits_128, e_Md_fits_133, e_Md_fits_155, e_Md_fits_182, o40, ↓bJ pa1, ↓bI (c_mvariableOf h2), nn, a1, hat, ↓bJ sm, ce, a4, cs, i_1_0, i_11, i_01, i_1_0, i_0_1, not_true, not_false_eq_true, if_true, if_false, Bool.true_eq_false, Bool.false_eq_true, decide_true, decide_false]
      · refine ⟨fun _ => ⟨m_u f 139 19 (nI (B + j)), g, ?_, fN_u (fN_r f), gN_r g⟩, fun hh => absurd (of_decide_eq_true hh) a4⟩
        simp (maxSteps := 4000000) (disch := first | omega | assumption) only [↓b_ix, ↓b_l3, ↓b_a3_0, ↓b_a3_1, ↓b_a3_2, ↓b_l4, ↓b_a4_0, ↓b_a4_1, ↓b_a4_2, ↓b_a4_3, ↓b_l129, ↓b_a129_0, ↓b_l130, ↓b_i130_1, ↓b_wi130_1, ↓b_l133, ↓b_a133_0, ↓b_a133_1, ↓b_i133_2, ↓b_wi133_2, ↓b_j133_3, ↓b_wj133_3, ↓b_i133_4, ↓b_wi133_4, ↓b_l134, ↓b_a134_0, ↓b_a134_1, ↓b_i134_2, ↓b_wi134_2, ↓b_i134_3, ↓b_wi134_3, ↓b_l135, ↓b_i135_1, ↓b_wi135_1, ↓b_l139, ↓b_a139_0, ↓b_a139_1, ↓b_a139_2, ↓b_a139_3, ↓b_a139_4, ↓b_a139_5, ↓b_a139_6, ↓b_a139_7, ↓b_a139_8, ↓b_a139_9, ↓b_a139_10, ↓b_a139_11, ↓b_a139_12, ↓b_a139_13, ↓b_a139_14, ↓b_i139_15, ↓b_wi139_15, ↓b_i139_16, ↓b_wi139_16, ↓b_i139_17, ↓b_wi139_17, ↓b_a139_18, ↓b_i139_19, ↓b_wi139_19, ↓b_i139_20, ↓b_wi139_20, ↓b_i139_21, ↓b_wi139_21, ↓b_l6, ↓b_i6, ↓b_wi6, ↓b_l140, ↓b_i140, ↓b_wi140, ↓b_l141, ↓b_i141, ↓b_wi141, ↓b_l142, ↓b_i142, ↓b_wi142, ↓b_l143, ↓b_i143, ↓b_wi143, ↓b_l144, ↓b_j144, ↓b_wj144, ↓b_l145, ↓b_j145, ↓b_wj145, ↓b_l146, ↓b_i146, ↓b_wi146, ↓b_l147, ↓b_i147, ↓b_wi147, ↓b_l148, ↓b_i148, ↓b_wi148, ↓b_l149, ↓b_i149, ↓b_wi149, ↓b_l150, ↓b_j150, ↓b_wj150, ↓b_l151, ↓b_i151, ↓b_wi151, ↓b_l152, ↓b_j152, ↓b_wj152, ↓b_l153, ↓b_i153, ↓b_wi153, ↓b_l154, ↓b_i154, ↓b_wi154, ↓b_l155, ↓b_j155, ↓b_wj155, ↓b_l156, ↓b_j156, ↓b_wj156, ↓b_l138, ↓b_j138, ↓b_wj138, ↓b_a5, ↓b_a13, ↓b_a44, ↓b_lA, ↓b_aA_0, ↓b_aA_1, ↓b_iA_2, ↓b_wiA_2, ↓b_iA_4, ↓b_wiA_4, ↓b_iA_5, ↓b_wiA_5, ↓b_iA_6, ↓b_wiA_6, ↓b_jA_3, ↓b_wjA_3, ↓b_lT, ↓b_lTc, ↓b_aT, ↓b_iT, ↓b_wiT, ↓b_iTc, ↓b_wiTc, ↓b_lW, ↓b_lWc, ↓b_aW, ↓b_iW, ↓b_wiW, ↓b_jWc, ↓b_wjWc, ↓b_rt, ↓b_ru, ↓b_wt, ↓b_wu, ↓b_0l, ↓b_0, ↓b_1, ↓b_2, m_tk, ↓reduceIte, cond_true, cond_false, Option.bind_some, e_Md_fits_57, e_Md_fits_94, e_Md_fits_128, e_Md_fits_133, e_Md_fits_155, e_Md_fits_182, o40, ↓bJ pa1, ↓bI (c_mvariableOf h2), nn, a1, hat, ↓bJ sm, ce, a4, i_1_0, i_11, i_01, i_1_0, i_0_1, not_true, not_false_eq_true, if_true, if_false, Bool.true_eq_false, Bool.false_eq_true, decide_true, decide_false]
theorem sub_l {i b : Nat} {l : List Nat} (hT : tv i l) (hb : b < 2 * sN i - 1) (h0 : ¬ sS i b = 0) : lfT (sS i b, sT i b l) = (sS i (b + 1), sT i (b + 1) l) ∧ b + 1 < 2 * sN i - 1 ∧ sF i (b + 1) = sF i b := by
  have h4 := sN_le i
  obtain ⟨q1, q2, q3⟩ := sS_l i hT.1 b (by omega) ⟨hb, h0⟩
  have q5 := sLR (sS i b) (tv_sub hT hb).1 h0
  refine ⟨?_, q1, q3⟩
  unfold lfT sT
  rw [q2, q3]
  simp only [List.take_take]
  rw [Nat.min_eq_left (by omega)]
theorem sub_r {i b : Nat} {l : List Nat} (hT : tv i l) (hb : b < 2 * sN i - 1) (h0 : ¬ sS i b = 0) : rtT (sS i b, sT i b l) = (sS i (b + 1 + sW i (b + 1)), sT i (b + 1 + sW i (b + 1)) l) ∧ b + 1 + sW i (b + 1) < 2 * sN i - 1 ∧ sF i (b + 1 + sW i (b + 1)) = sF i (b + 1) + sN (sS i (b + 1)) ∧ b + 1 + sW i (b + 1) + sW i (b + 1 + sW i (b + 1)) = b + sW i b ∧ sF i (b + 1 + sW i (b + 1)) + sN (sS i (b + 1 + sW i (b + 1))) = sF i b + sN (sS i b) := by
  have h4 := sN_le i
  obtain ⟨q1, q2, q3⟩ := sS_l i hT.1 b (by omega) ⟨hb, h0⟩
  obtain ⟨r1, r2, r3, r4⟩ := sS_r i hT.1 b (by omega) ⟨hb, h0⟩
  have q5 := sLR (sS i b) (tv_sub hT hb).1 h0
  refine ⟨?_, r1, by rw [r3, q2, q3], r4, by rw [r2, r3]; omega⟩
  unfold rtT sT
  rw [r2, r3]
  simp only [List.drop_take, List.drop_drop]
  rw [show sN (sS i b) - sN (sL (sS i b)) = sN (sR (sS i b)) by omega]
theorem m_skip {g : mG} {i b N F : Nat} {l : List Nat} : ∀ m p' p {f : mF}, p' + m = p → p ≤ n → tX f B n w → f 139 19 = nI (B + p') → (∀ x, p' ≤ x → x < p → w x = 44 ∨ w x = 41) → N < 100 → am_X (am_Y d) k_Md_fits 14 [(0, .ref 139), (2, .long (lN (tM i l))), (4, .int (nI (N + 1))), (5, .int (nI b)), (6, .int (nI F))] [] (mM xs f g t u c s) = am_X (am_Y d) k_Md_fits 14 [(0, .ref 139), (2, .long (lN (tM i l))), (4, .int (nI (N + 1))), (5, .int (nI b)), (6, .int (nI F))] [] (mM xs (m_u f 139 19 (nI (B + p))) g t u c s)
  | 0, p', p, f, h1, h2, hx, hat, hs, hN => by
    have : p' = p := by omega
    subst this; rw [m_us hat.symm]
  | m + 1, p', p, f, h1, h2, hx, hat, hs, hN => by
    have ih := m_skip (g := g) (i := i) (b := b) (N := N) (F := F) (l := l) m (p' + 1) p (f := m_u f 139 19 (nI (B + (p' + 1)))) (by omega) h2 (tX_N hx (fN_u (fN_r f))) (m_uu _) (fun x a b => hs x (by omega) b) hN
    rw [m_u2] at ih
    have hB := hx.1
    have w0 := hx.2 p' (by omega)
    have d0 : ¬ nI (N + 1) ≤ 0 := by rw [l_0, nI_leI (by omega) (by omega)]; omega
    have b1 : nI (B + p') + 1 = nI (B + (p' + 1)) := by rw [nI_1, Nat.add_assoc]
    rw [← ih, e_Md_fits_14]
    rcases hs p' (by omega) (by omega) with e | e
    · simp (maxSteps := 4000000) (disch := first | omega | assumption) only [↓b_ix, ↓b_l3, ↓b_a3_0, ↓b_a3_1, ↓b_a3_2, ↓b_l4, ↓b_a4_0, ↓b_a4_1, ↓b_a4_2, ↓b_a4_3, ↓b_l129, ↓b_a129_0, ↓b_l130, ↓b_i130_1, ↓b_wi130_1, ↓b_l133, ↓b_a133_0, ↓b_a133_1, ↓b_i133_2, ↓b_wi133_2, ↓b_j133_3, ↓b_wj133_3, ↓b_i133_4, ↓b_wi133_4, ↓b_l134, ↓b_a134_0, ↓b_a134_1, ↓b_i134_2, ↓b_wi134_2, ↓b_i134_3, ↓b_wi134_3, ↓b_l135, ↓b_i135_1, ↓b_wi135_1, ↓b_l139, ↓b_a139_0, ↓b_a139_1, ↓b_a139_2, ↓b_a139_3, ↓b_a139_4, ↓b_a139_5, ↓b_a139_6, ↓b_a139_7, ↓b_a139_8, ↓b_a139_9, ↓b_a139_10, ↓b_a139_11, ↓b_a139_12, ↓b_a139_13, ↓b_a139_14, ↓b_i139_15, ↓b_wi139_15, ↓b_i139_16, ↓b_wi139_16, ↓b_i139_17, ↓b_wi139_17, ↓b_a139_18, ↓b_i139_19, ↓b_wi139_19, ↓b_i139_20, ↓b_wi139_20, ↓b_i139_21, ↓b_wi139_21, ↓b_l6, ↓b_i6, ↓b_wi6, ↓b_l140, ↓b_i140, ↓b_wi140, ↓b_l141, ↓b_i141, ↓b_wi141, ↓b_l142, ↓b_i142, ↓b_wi142, ↓b_l143, ↓b_i143, ↓b_wi143, ↓b_l144, ↓b_j144, ↓b_wj144, ↓b_l145, ↓b_j145, ↓b_wj145, ↓b_l146, ↓b_i146, ↓b_wi146, ↓b_l147, ↓b_i147, ↓b_wi147, ↓b_l148, ↓b_i148, ↓b_wi148, ↓b_l149, ↓b_i149, ↓b_wi149, ↓b_l150, ↓b_j150, ↓b_wj150, ↓b_l151, ↓b_i151, ↓b_wi151, ↓b_l152, ↓b_j152, ↓b_wj152, ↓b_l153, ↓b_i153, ↓b_wi153, ↓b_l154, ↓b_i154, ↓b_wi154, ↓b_l155, ↓b_j155, ↓b_wj155, ↓b_l156, ↓b_j156, ↓b_wj156, ↓b_l138, ↓b_j138, ↓b_wj138, ↓b_a5, ↓b_a13, ↓b_a44, ↓b_lA, ↓b_aA_0, ↓b_aA_1, ↓b_iA_2, ↓b_wiA_2, ↓b_iA_4, ↓b_wiA_4, ↓b_iA_5, ↓b_wiA_5, ↓b_iA_6, ↓b_wiA_6, ↓b_jA_3, ↓b_wjA_3, ↓b_lT, ↓b_lTc, ↓b_aT, ↓b_iT, ↓b_wiT, ↓b_iTc, ↓b_wiTc, ↓b_lW, ↓b_lWc, ↓b_aW, ↓b_iW, ↓b_wiW, ↓b_jWc, ↓b_wjWc, ↓b_rt, ↓b_ru, ↓b_wt, ↓b_wu, ↓b_0l, ↓b_0, ↓b_1, ↓b_2, m_tk, ↓reduceIte, cond_true, cond_false, Option.bind_some, e_Md_fits_44, e_Md_fits_223, d0, hat, w0, e, b1, i_11, i_01, i_1_0, i_0_1, not_true, not_false_eq_true, if_true, if_false, Bool.true_eq_false, Bool.false_eq_true, decide_true, decide_false]
    · simp (maxSteps := 4000000) (disch := first | omega | assumption) only [↓b_ix, ↓b_l3, ↓b_a3_0, ↓b_a3_1, ↓b_a3_2, ↓b_l4, ↓b_a4_0, ↓b_a4_1, ↓b_a4_2, ↓b_a4_3, ↓b_l129, ↓b_a129_0, ↓b_l130, ↓b_i130_1, ↓b_wi130_1, ↓b_l133, ↓b_a133_0, ↓b_a133_1, ↓b_i133_2, ↓b_wi133_2, ↓b_j133_3, ↓b_wj133_3, ↓b_i133_4, ↓b_wi133_4, ↓b_l134, ↓b_a134_0, ↓b_a134_1, ↓b_i134_2, ↓b_wi134_2, ↓b_i134_3, ↓b_wi134_3, ↓b_l135, ↓b_i135_1, ↓b_wi135_1, ↓b_l139, ↓b_a139_0, ↓b_a139_1, ↓b_a139_2, ↓b_a139_3, ↓b_a139_4, ↓b_a139_5, ↓b_a139_6, ↓b_a139_7, ↓b_a139_8, ↓b_a139_9, ↓b_a139_10, ↓b_a139_11, ↓b_a139_12, ↓b_a139_13, ↓b_a139_14, ↓b_i139_15, ↓b_wi139_15, ↓b_i139_16, ↓b_wi139_16, ↓b_i139_17, ↓b_wi139_17, ↓b_a139_18, ↓b_i139_19, ↓b_wi139_19, ↓b_i139_20, ↓b_wi139_20, ↓b_i139_21, ↓b_wi139_21, ↓b_l6, ↓b_i6, ↓b_wi6, ↓b_l140, ↓b_i140, ↓b_wi140, ↓b_l141, ↓b_i141, ↓b_wi141, ↓b_l142, ↓b_i142, ↓b_wi142, ↓b_l143, ↓b_i143, ↓b_wi143, ↓b_l144, ↓b_j144, ↓b_wj144, ↓b_l145, ↓b_j145, ↓b_wj145, ↓b_l146, ↓b_i146, ↓b_wi146, ↓b_l147, ↓b_i147, ↓b_wi147, ↓b_l148, ↓b_i148, ↓b_wi148, ↓b_l149, ↓b_i149, ↓b_wi149, ↓b_l150, ↓b_j150, ↓b_wj150, ↓b_l151, ↓b_i151, ↓b_wi151, ↓b_l152, ↓b_j152, ↓b_wj152, ↓b_l153, ↓b_i153, ↓b_wi153, ↓b_l154, ↓b_i154, ↓b_wi154, ↓b_l155, ↓b_j155, ↓b_wj155, ↓b_l156, ↓b_j156, ↓b_wj156, ↓b_l138, ↓b_j138, ↓b_wj138, ↓b_a5, ↓b_a13, ↓b_a44, ↓b_lA, ↓b_aA_0, ↓b_aA_1, ↓b_iA_2, ↓b_wiA_2, ↓b_iA_4, ↓b_wiA_4, ↓b_iA_5, ↓b_wiA_5, ↓b_iA_6, ↓b_wiA_6, ↓b_jA_3, ↓b_wjA_3, ↓b_lT, ↓b_lTc, ↓b_aT, ↓b_iT, ↓b_wiT, ↓b_iTc, ↓b_wiTc, ↓b_lW, ↓b_lWc, ↓b_aW, ↓b_iW, ↓b_wiW, ↓b_jWc, ↓b_wjWc, ↓b_rt, ↓b_ru, ↓b_wt, ↓b_wu, ↓b_0l, ↓b_0, ↓b_1, ↓b_2, m_tk, ↓reduceIte, cond_true, cond_false, Option.bind_some, e_Md_fits_44, e_Md_fits_223, d0, hat, w0, e, b1, show ¬ (41 : Int32) = 44 by decide, i_11, i_01, i_1_0, i_0_1, not_true, not_false_eq_true, if_true, if_false, Bool.true_eq_false, Bool.false_eq_true, decide_true, decide_false]
theorem m_fitE {i : Nat} {l : List Nat} (hd : 4 ≤ d) (hn : n ≤ 60) (hT : tv i l) : ∀ k p' p j b N {f : mF} {g : mG} {va : Nat → sTm}, N + k < 50 → (∀ v, v < 6 → vV (va v)) → tX f B n w → (∀ v, v < 6 → g 152 v = mTh (va v)) → b < 2 * sN i - 1 → yp w n k p j → p' ≤ p → (∀ x, p' ≤ x → x < p → w x = 44 ∨ w x = 41) → f 139 19 = nI (B + p') →
    ((pt w k p (sS i b, sT i b l) va).1 = false → ∃ f' g', am_X (am_Y d) k_Md_fits 14 [(0, .ref 139), (2, .long (lN (tM i l))), (4, .int (nI (N + 1))), (5, .int (nI b)), (6, .int (nI (sF i b)))] [] (mM xs f g t u c s) = some (.inl (some (.int 0)), mM xs f' g' t u c s) ∧ fN f f' ∧ gN g g') ∧
    ((pt w k p (sS i b, sT i b l) va).1 = true → ∃ f' g' q, am_X (am_Y d) k_Md_fits 14 [(0, .ref 139), (2, .long (lN (tM i l))), (4, .int (nI (N + 1))), (5, .int (nI b)), (6, .int (nI (sF i b)))] [] (mM xs f g t u c s) = am_X (am_Y d) k_Md_fits 14 [(0, .ref 139), (2, .long (lN (tM i l))), (4, .int (nI N)), (5, .int (nI (b + sW i b))), (6, .int (nI (sF i b + sN (sS i b))))] [] (mM xs f' g' t u c s) ∧ f' 139 19 = nI (B + q) ∧ q ≤ j ∧ (∀ x, q ≤ x → x < j → w x = 41) ∧ fN f f' ∧ gN g g' ∧ ∀ v, v < 6 → g' 152 v = mTh ((pt w k p (sS i b, sT i b l) va).2.2 v)) := by
  -- at the first sign of a pattern
  have head : ∀ p' p b N F {f : mF} {g : mG}, N < 60 → tX f B n w → p < n → p' ≤ p → (∀ x, p' ≤ x → x < p → w x = 44 ∨ w x = 41) → f 139 19 = nI (B + p') → ¬ w p = 44 → ¬ w p = 41 → am_X (am_Y d) k_Md_fits 14 [(0, .ref 139), (2, .long (lN (tM i l))), (4, .int (nI (N + 1))), (5, .int (nI b)), (6, .int (nI F))] [] (mM xs f g t u c s) = am_X (am_Y d) k_Md_fits 57 [(0, .ref 139), (2, .long (lN (tM i l))), (4, .int (nI (N + 1))), (5, .int (nI b)), (6, .int (nI F)), (7, .int (w p))] [] (mM xs (m_u f 139 19 (nI (B + p))) g t u c s) := by
    intro p' p b N F f g hN hx hp hpp hs hat e44 e41
    have hB := hx.1
    have w0 : ∀ v, m_u f 139 19 v 140 (B + p) = w p := fun v => by rw [m_un (by omega)]; exact hx.2 p hp
    have d0 : ¬ nI (N + 1) ≤ 0 := by rw [l_0, nI_leI (by omega) (by omega)]; omega
    rw [m_skip (xs := xs) (t := t) (u := u) (c := c) (s := s) (d := d) (p - p') p' p (by omega) (by omega) hx hat hs (by omega), e_Md_fits_14]
    simp (maxSteps := 4000000) (disch := first | omega | assumption) only [↓b_ix, ↓b_l3, ↓b_a3_0, ↓b_a3_1, ↓b_a3_2, ↓b_l4, ↓b_a4_0, ↓b_a4_1, ↓b_a4_2, ↓b_a4_3, ↓b_l129, ↓b_a129_0, ↓b_l130, ↓b_i130_1, ↓b_wi130_1, ↓b_l133, ↓b_a133_0, ↓b_a133_1, ↓b_i133_2, ↓b_wi133_2, ↓b_j133_3, ↓b_wj133_3, ↓b_i133_4, ↓b_wi133_4, ↓b_l134, ↓b_a134_0, ↓b_a134_1, ↓b_i134_2, ↓b_wi134_2, ↓b_i134_3, ↓b_wi134_3, ↓b_l135, ↓b_i135_1, ↓b_wi135_1, ↓b_l139, ↓b_a139_0, ↓b_a139_1, ↓b_a139_2, ↓b_a139_3, ↓b_a139_4, ↓b_a139_5, ↓b_a139_6, ↓b_a139_7, ↓b_a139_8, ↓b_a139_9, ↓b_a139_10, ↓b_a139_11, ↓b_a139_12, ↓b_a139_13, ↓b_a139_14, ↓b_i139_15, ↓b_wi139_15, ↓b_i139_16, ↓b_wi139_16, ↓b_i139_17, ↓b_wi139_17, ↓b_a139_18, ↓b_i139_19, ↓b_wi139_19, ↓b_i139_20, ↓b_wi139_20, ↓b_i139_21, ↓b_wi139_21, ↓b_l6, ↓b_i6, ↓b_wi6, ↓b_l140, ↓b_i140, ↓b_wi140, ↓b_l141, ↓b_i141, ↓b_wi141, ↓b_l142, ↓b_i142, ↓b_wi142, ↓b_l143, ↓b_i143, ↓b_wi143, ↓b_l144, ↓b_j144, ↓b_wj144, ↓b_l145, ↓b_j145, ↓b_wj145, ↓b_l146, ↓b_i146, ↓b_wi146, ↓b_l147, ↓b_i147, ↓b_wi147, ↓b_l148, ↓b_i148, ↓b_wi148, ↓b_l149, ↓b_i149, ↓b_wi149, ↓b_l150, ↓b_j150, ↓b_wj150, ↓b_l151, ↓b_i151, ↓b_wi151, ↓b_l152, ↓b_j152, ↓b_wj152, ↓b_l153, ↓b_i153, ↓b_wi153, ↓b_l154, ↓b_i154, ↓b_wi154, ↓b_l155, ↓b_j155, ↓b_wj155, ↓b_l156, ↓b_j156, ↓b_wj156, ↓b_l138, ↓b_j138, ↓b_wj138, ↓b_a5, ↓b_a13, ↓b_a44, ↓b_lA, ↓b_aA_0, ↓b_aA_1, ↓b_iA_2, ↓b_wiA_2, ↓b_iA_4, ↓b_wiA_4, ↓b_iA_5, ↓b_wiA_5, ↓b_iA_6, ↓b_wiA_6, ↓b_jA_3, ↓b_wjA_3, ↓b_lT, ↓b_lTc, ↓b_aT, ↓b_iT, ↓b_wiT, ↓b_iTc, ↓b_wiTc, ↓b_lW, ↓b_lWc, ↓b_aW, ↓b_iW, ↓b_wiW, ↓b_jWc, ↓b_wjWc, ↓b_rt, ↓b_ru, ↓b_wt, ↓b_wu, ↓b_0l, ↓b_0, ↓b_1, ↓b_2, m_tk, ↓reduceIte, cond_true, cond_false, Option.bind_some, d0, m_uu, w0, e44, e41, i_11, i_01, i_1_0, i_0_1, not_true, not_false_eq_true, if_true, if_false, Bool.true_eq_false, Bool.false_eq_true, decide_true, decide_false]
  have simple : ∀ k p' p j b N {f : mF} {g : mG} {va : Nat → sTm}, N < 50 → (∀ v, v < 6 → vV (va v)) → tX f B n w → (∀ v, v < 6 → g 152 v = mTh (va v)) → b < 2 * sN i - 1 → y0 w n p j → p' ≤ p → (∀ x, p' ≤ x → x < p → w x = 44 ∨ w x = 41) → f 139 19 = nI (B + p') →
    ((pt w k p (sS i b, sT i b l) va).1 = false → ∃ f' g', am_X (am_Y d) k_Md_fits 14 [(0, .ref 139), (2, .long (lN (tM i l))), (4, .int (nI (N + 1))), (5, .int (nI b)), (6, .int (nI (sF i b)))] [] (mM xs f g t u c s) = some (.inl (some (.int 0)), mM xs f' g' t u c s) ∧ fN f f' ∧ gN g g') ∧
    ((pt w k p (sS i b, sT i b l) va).1 = true → ∃ f' g' q, am_X (am_Y d) k_Md_fits 14 [(0, .ref 139), (2, .long (lN (tM i l))), (4, .int (nI (N + 1))), (5, .int (nI b)), (6, .int (nI (sF i b)))] [] (mM xs f g t u c s) = am_X (am_Y d) k_Md_fits 14 [(0, .ref 139), (2, .long (lN (tM i l))), (4, .int (nI N)), (5, .int (nI (b + sW i b))), (6, .int (nI (sF i b + sN (sS i b))))] [] (mM xs f' g' t u c s) ∧ f' 139 19 = nI (B + q) ∧ q ≤ j ∧ (∀ x, q ≤ x → x < j → w x = 41) ∧ fN f f' ∧ gN g g' ∧ ∀ v, v < 6 → g' 152 v = mTh ((pt w k p (sS i b, sT i b l) va).2.2 v)) := by
    intro k p' p j b N f g va hN hV hx hg hb h hpp hs hat
    have h40 : ¬ w p = 40 := fun e => h.2.1 (.inl e)
    have key : ∀ x : Int32, x = 44 ∨ x = 41 → ¬ (x = 39 ∨ isD x = true ∨ isA x = true ∨ isV x = true ∨ x = 95) := by
      intro x hx; rcases hx with rfl | rfl <;> decide
    have hsx : w p = 39 ∨ isD (w p) = true ∨ isA (w p) = true ∨ isV (w p) = true ∨ w p = 95 := by
      rcases h.2.2.2 with q | ⟨_, q, _⟩
      · exact .inl q.1
      · exact .inr q
    have hd1 := head p' p b N (sF i b) (g := g) (by omega) hx h.1 hpp hs hat (fun e => key _ (.inl e) hsx) (fun e => key _ (.inr e) hsx)
    obtain ⟨m1, m2⟩ := m_fit0 (xs := xs) (t := t) (u := u) (c := c) (s := s) (N := N) hd hn hV (tX_N hx (fN_u (v := nI (B + p)) (fN_r f))) hg hT hb h (m_uu _) (by omega)
    rw [pt_s h40]
    refine ⟨fun hh => ?_, fun hh => ?_⟩
    · obtain ⟨f', g', y1, y2, y3⟩ := m1 hh
      exact ⟨f', g', hd1.trans y1, fN_t (fN_u (fN_r f)) y2, y3⟩
    · obtain ⟨f', g', y1, y2, y3, y4, y5⟩ := m2 hh
      exact ⟨f', g', j, hd1.trans y1, y2, Nat.le_refl j, fun x a b => absurd b (by omega), fN_t (fN_u (fN_r f)) y3, y4, y5⟩
  intro k
  induction k with
  | zero => intro p' p j b N f g va hN hV hx hg hb h hpp hs hat; exact simple 0 p' p j b N (by omega) hV hx hg hb h hpp hs hat
  | succ k ih =>
    intro p' p j b N f g va hN hV hx hg hb h hpp hs hat
    rcases h with ⟨h1, h40, j1, j2, a1, a2, a3, a4, a5, a6, rfl⟩ | h
    · have hd1 := head p' p b N (sF i b) (g := g) (by omega) hx h1 hpp hs hat (by rw [h40]; decide) (by rw [h40]; decide)
      have h4 := sN_le i
      obtain ⟨_, _, _, _, _, q6⟩ := sS_f i hT.1 b (by omega) hb
      have tb := t_bit (d := d) (M := mM xs (m_u f 139 19 (nI (B + p))) g t u c s) (show 1 ≤ d by omega) hT (show b < 7 by omega)
      have nj1 := yp_n k a1
      have nj2 := yp_n k a4
      by_cases h0 : sS i b = 0
      · have b0 : sB i / 2 ^ b % 2 = 0 := q6.mpr h0
        rw [pt_f h40 h0]
        refine ⟨fun _ => ⟨m_u f 139 19 (nI (B + p)), g, ?_, fN_u (fN_r f), gN_r g⟩, fun hh => (nomatch (hh : false = true))⟩
        rw [b0] at tb
        rw [hd1, h40]
        simp (maxSteps := 4000000) (disch := first | omega | assumption) only [↓b_ix, ↓b_l3, ↓b_a3_0, ↓b_a3_1, ↓b_a3_2, ↓b_l4, ↓b_a4_0, ↓b_a4_1, ↓b_a4_2, ↓b_a4_3, ↓b_l129, ↓b_a129_0, ↓b_l130, ↓b_i130_1, ↓b_wi130_1, ↓b_l133, ↓b_a133_0, ↓b_a133_1, ↓b_i133_2, ↓b_wi133_2, ↓b_j133_3, ↓b_wj133_3, ↓b_i133_4, ↓b_wi133_4, ↓b_l134, ↓b_a134_0, ↓b_a134_1, ↓b_i134_2, ↓b_wi134_2, ↓b_i134_3, ↓b_wi134_3, ↓b_l135, ↓b_i135_1, ↓b_wi135_1, ↓b_l139, ↓b_a139_0, ↓b_a139_1, ↓b_a139_2, ↓b_a139_3, ↓b_a139_4, ↓b_a139_5, ↓b_a139_6, ↓b_a139_7, ↓b_a139_8, ↓b_a139_9, ↓b_a139_10, ↓b_a139_11, ↓b_a139_12, ↓b_a139_13, ↓b_a139_14, ↓b_i139_15, ↓b_wi139_15, ↓b_i139_16, ↓b_wi139_16, ↓b_i139_17, ↓b_wi139_17, ↓b_a139_18, ↓b_i139_19, ↓b_wi139_19, ↓b_i139_20, ↓b_wi139_20, ↓b_i139_21, ↓b_wi139_21, ↓b_l6, ↓b_i6, ↓b_wi6, ↓b_l140, ↓b_i140, ↓b_wi140, ↓b_l141, ↓b_i141, ↓b_wi141, ↓b_l142, ↓b_i142, ↓b_wi142, ↓b_l143, ↓b_i143, ↓b_wi143, ↓b_l144, ↓b_j144, ↓b_wj144, ↓b_l145, ↓b_j145, ↓b_wj145, ↓b_l146, ↓b_i146, ↓b_wi146, ↓b_l147, ↓b_i147, ↓b_wi147, ↓b_l148, ↓b_i148, ↓b_wi148, ↓b_l149, ↓b_i149, ↓b_wi149, ↓b_l150, ↓b_j150, ↓b_wj150, ↓b_l151, ↓b_i151, ↓b_wi151, ↓b_l152, ↓b_j152, ↓b_wj152, ↓b_l153, ↓b_i153, ↓b_wi153, ↓b_l154, ↓b_i154, ↓b_wi154, ↓b_l155, ↓b_j155, ↓b_wj155, ↓b_l156, ↓b_j156, ↓b_wj156, ↓b_l138, ↓b_j138, ↓b_wj138, ↓b_a5, ↓b_a13, ↓b_a44, ↓b_lA, ↓b_aA_0, ↓b_aA_1, ↓b_iA_2, ↓b_wiA_2, ↓b_iA_4, ↓b_wiA_4, ↓b_iA_5, ↓b_wiA_5, ↓b_iA_6, ↓b_wiA_6, ↓b_jA_3, ↓b_wjA_3, ↓b_lT, ↓b_lTc, ↓b_aT, ↓b_iT, ↓b_wiT, ↓b_iTc, ↓b_wiTc, ↓b_lW, ↓b_lWc, ↓b_aW, ↓b_iW, ↓b_wiW, ↓b_jWc, ↓b_wjWc, ↓b_rt, ↓b_ru, ↓b_wt, ↓b_wu, ↓b_0l, ↓b_0, ↓b_1, ↓b_2, m_tk, ↓reduceIte, cond_true, cond_false, Option.bind_some, e_Md_fits_57, ↓bI tb, nI_0, i_11, i_01, i_1_0, i_0_1, not_true, not_false_eq_true, if_true, if_false, Bool.true_eq_false, Bool.false_eq_true, decide_true, decide_false]
      · have b0 : ¬ sB i / 2 ^ b % 2 = 0 := fun e => h0 (q6.mp e)
        have n0 : ¬ nI (sB i / 2 ^ b % 2) = 0 := by rw [l_0, nI_eq (by omega) (by omega)]; exact b0
        obtain ⟨sl1, sl2, sl3⟩ := sub_l hT hb h0
        obtain ⟨sr1, sr2, sr3, sr4, sr5⟩ := sub_r hT hb h0
        have bb1 : nI (B + p) + 1 = nI (B + (p + 1)) := by rw [nI_1, Nat.add_assoc]
        have st : am_X (am_Y d) k_Md_fits 14 [(0, .ref 139), (2, .long (lN (tM i l))), (4, .int (nI (N + 1))), (5, .int (nI b)), (6, .int (nI (sF i b)))] [] (mM xs f g t u c s) = am_X (am_Y d) k_Md_fits 14 [(0, .ref 139), (2, .long (lN (tM i l))), (4, .int (nI (N + 1 + 1))), (5, .int (nI (b + 1))), (6, .int (nI (sF i (b + 1))))] [] (mM xs (m_u f 139 19 (nI (B + (p + 1)))) g t u c s) := by
          rw [hd1, h40, sl3]
          simp (maxSteps := 4000000) (disch := first | omega | assumption) only [↓b_ix, ↓b_l3, ↓b_a3_0, ↓b_a3_1, ↓b_a3_2, ↓b_l4, ↓b_a4_0, ↓b_a4_1, ↓b_a4_2, ↓b_a4_3, ↓b_l129, ↓b_a129_0, ↓b_l130, ↓b_i130_1, ↓b_wi130_1, ↓b_l133, ↓b_a133_0, ↓b_a133_1, ↓b_i133_2, ↓b_wi133_2, ↓b_j133_3, ↓b_wj133_3, ↓b_i133_4, ↓b_wi133_4, ↓b_l134, ↓b_a134_0, ↓b_a134_1, ↓b_i134_2, ↓b_wi134_2, ↓b_i134_3, ↓b_wi134_3, ↓b_l135, ↓b_i135_1, ↓b_wi135_1, ↓b_l139, ↓b_a139_0, ↓b_a139_1, ↓b_a139_2, ↓b_a139_3, ↓b_a139_4, ↓b_a139_5, ↓b_a139_6, ↓b_a139_7, ↓b_a139_8, ↓b_a139_9, ↓b_a139_10, ↓b_a139_11, ↓b_a139_12, ↓b_a139_13, ↓b_a139_14, ↓b_i139_15, ↓b_wi139_15, ↓b_i139_16, ↓b_wi139_16, ↓b_i139_17, ↓b_wi139_17, ↓b_a139_18, ↓b_i139_19, ↓b_wi139_19, ↓b_i139_20, ↓b_wi139_20, ↓b_i139_21, ↓b_wi139_21, ↓b_l6, ↓b_i6, ↓b_wi6, ↓b_l140, ↓b_i140, ↓b_wi140, ↓b_l141, ↓b_i141, ↓b_wi141, ↓b_l142, ↓b_i142, ↓b_wi142, ↓b_l143, ↓b_i143, ↓b_wi143, ↓b_l144, ↓b_j144, ↓b_wj144, ↓b_l145, ↓b_j145, ↓b_wj145, ↓b_l146, ↓b_i146, ↓b_wi146, ↓b_l147, ↓b_i147, ↓b_wi147, ↓b_l148, ↓b_i148, ↓b_wi148, ↓b_l149, ↓b_i149, ↓b_wi149, ↓b_l150, ↓b_j150, ↓b_wj150, ↓b_l151, ↓b_i151, ↓b_wi151, ↓b_l152, ↓b_j152, ↓b_wj152, ↓b_l153, ↓b_i153, ↓b_wi153, ↓b_l154, ↓b_i154, ↓b_wi154, ↓b_l155, ↓b_j155, ↓b_wj155, ↓b_l156, ↓b_j156, ↓b_wj156, ↓b_l138, ↓b_j138, ↓b_wj138, ↓b_a5, ↓b_a13, ↓b_a44, ↓b_lA, ↓b_aA_0, ↓b_aA_1, ↓b_iA_2, ↓b_wiA_2, ↓b_iA_4, ↓b_wiA_4, ↓b_iA_5, ↓b_wiA_5, ↓b_iA_6, ↓b_wiA_6, ↓b_jA_3, ↓b_wjA_3, ↓b_lT, ↓b_lTc, ↓b_aT, ↓b_iT, ↓b_wiT, ↓b_iTc, ↓b_wiTc, ↓b_lW, ↓b_lWc, ↓b_aW, ↓b_iW, ↓b_wiW, ↓b_jWc, ↓b_wjWc, ↓b_rt, ↓b_ru, ↓b_wt, ↓b_wu, ↓b_0l, ↓b_0, ↓b_1, ↓b_2, m_tk, ↓reduceIte, cond_true, cond_false, Option.bind_some, e_Md_fits_57, e_Md_fits_75, e_Md_fits_223, ↓bI tb, n0, m_uu, bb1, m_u2, nI_1, i_11, i_01, i_1_0, i_0_1, not_true, not_false_eq_true, if_true, if_false, Bool.true_eq_false, Bool.false_eq_true, decide_true, decide_false]
        have hx1 : tv (sS i b, sT i b l).1 (sS i b, sT i b l).2 := tv_sub hT hb
        have fm1 : fN f (m_u f 139 19 (nI (B + (p + 1)))) := fN_u (fN_r f)
        have hNk : N + 1 + k < 50 := by omega
        have hNk2 : N + k < 50 := by omega
        have R1 : ∀ q1, q1 ≤ j1 → (∀ x, q1 ≤ x → x < j1 → w x = 41) → q1 ≤ j1 + 1 ∧ ∀ x, q1 ≤ x → x < j1 + 1 → w x = 44 ∨ w x = 41 := by
          intro q1 h1 h2
          refine ⟨by omega, fun x ha hb => ?_⟩
          by_cases e : x = j1
          · rw [e]; exact .inl a3
          · exact .inr (h2 x ha (by omega))
        have R2 : ∀ q2, q2 ≤ j2 → (∀ x, q2 ≤ x → x < j2 → w x = 41) → q2 ≤ j2 + 1 ∧ ∀ x, q2 ≤ x → x < j2 + 1 → w x = 41 := by
          intro q2 h1 h2
          refine ⟨by omega, fun x ha hb => ?_⟩
          by_cases e : x = j2
          · rw [e]; exact a6
          · exact h2 x ha (by omega)
        obtain ⟨p1, p2, p3, p4⟩ := pt_all k (tv_lf hx1 h0) hV a1
        have iL := ih (p + 1) (p + 1) j1 (b + 1) (N + 1) (f := m_u f 139 19 (nI (B + (p + 1)))) (g := g) (va := va) hNk hV (tX_N hx fm1) hg sl2 a1 (Nat.le_refl _) (fun x a b => absurd b (by omega)) (m_uu _)
        rw [← sl1] at iL
        obtain ⟨iL1, iL2⟩ := iL
        by_cases b1 : (pt w k (p + 1) (lfT (sS i b, sT i b l)) va).1 = true
        · obtain ⟨f1, g1, q1, y1, y2, y3, y4, y5, y6, y7⟩ := iL2 b1
          have e1 := p3 b1
          obtain ⟨u1, u2⟩ := R1 q1 y3 y4
          have iR := ih q1 (j1 + 1) j2 (b + 1 + sW i (b + 1)) N (f := f1) (g := g1) (va := (pt w k (p + 1) (lfT (sS i b, sT i b l)) va).2.2) hNk2 p4 (tX_N hx (fN_t fm1 y5)) y7 sr2 a4 u1 u2 y2
          rw [← sr1, sr3, sr4] at iR
          rw [← sr3, sr5] at iR
          obtain ⟨iR1, iR2⟩ := iR
          have st2 := st.trans y1
          rw [← sr3] at st2
          by_cases b2 : (pt w k (j1 + 1) (rtT (sS i b, sT i b l)) (pt w k (p + 1) (lfT (sS i b, sT i b l)) va).2.2).1 = true
          · rw [pt_3 h40 h0 b1 (by rw [e1]; exact b2), e1]
            obtain ⟨f2, g2, q2, z1, z2, z3, z4, z5, z6, z7⟩ := iR2 b2
            obtain ⟨v1, v2⟩ := R2 q2 z3 z4
            exact ⟨fun hh => (nomatch (hh : true = false)), fun _ => ⟨f2, g2, q2, st2.trans z1, z2, v1, v2, fN_t (fN_t fm1 y5) z5, gN_t y6 z6, z7⟩⟩
          · have b2' : (pt w k (j1 + 1) (rtT (sS i b, sT i b l)) (pt w k (p + 1) (lfT (sS i b, sT i b l)) va).2.2).1 = false := by simpa using b2
            rw [pt_2 h40 h0 b1 (by rw [e1]; exact b2'), e1]
            obtain ⟨f2, g2, z1, z2, z3⟩ := iR1 b2'
            exact ⟨fun _ => ⟨f2, g2, st2.trans z1, fN_t (fN_t fm1 y5) z2, gN_t y6 z3⟩, fun hh => absurd hh b2⟩
        · have b1' : (pt w k (p + 1) (lfT (sS i b, sT i b l)) va).1 = false := by simpa using b1
          rw [pt_1 h40 h0 b1']
          obtain ⟨f1, g1, y1, y2, y3⟩ := iL1 b1'
          exact ⟨fun _ => ⟨f1, g1, st.trans y1, fN_t fm1 y2, y3⟩, fun hh => absurd hh b1⟩
    · exact simple (k + 1) p' p j b N (by omega) hV hx hg hb h hpp hs hat
end MG
