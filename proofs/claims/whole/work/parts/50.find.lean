/-! THE CLAUSE OF A STEP; the class finds it so -/
def cmpT (r : Int32) (x y : sTm) : Bool := if r = 61 then decide (x = y) else isN x.1 x.2 && (isN y.1 y.2 && decide (x.2.getD 0 0 < y.2.getD 0 0))
def gdF (w : Nat → Int32) (n : Nat) (va : Nat → sTm) (self i : Nat) : Bool × Nat :=
  if i < n ∧ w i = 63 then (if (ev w va self 4 (i + 1)).1.1 < 9 then (if (ev w va self 4 ((ev w va self 4 (i + 1)).2 + 1)).1.1 < 9 then (cmpT (w (ev w va self 4 (i + 1)).2) (ev w va self 4 (i + 1)).1 (ev w va self 4 ((ev w va self 4 (i + 1)).2 + 1)).1, (ev w va self 4 ((ev w va self 4 (i + 1)).2 + 1)).2) else (false, (ev w va self 4 ((ev w va self 4 (i + 1)).2 + 1)).2)) else (false, (ev w va self 4 (i + 1)).2)) else (true, i)
def va0 (st : sTm) : Nat → sTm := fun k => if k = 5 then st else (10, [])
def nx (w : Nat → Int32) : Nat → Nat → Nat
  | 0, i => i
  | m + 1, i => if w i = 59 then i + 1 else nx w m (i + 1)
def tk (w : Nat → Int32) (n self : Nat) (st x : sTm) (i : Nat) : Bool × Nat × (Nat → sTm) :=
  if (pt w 4 i x (va0 st)).1 = true then ((gdF w n (pt w 4 i x (va0 st)).2.2 self (pt w 4 i x (va0 st)).2.1).1, (gdF w n (pt w 4 i x (va0 st)).2.2 self (pt w 4 i x (va0 st)).2.1).2, (pt w 4 i x (va0 st)).2.2) else (false, 0, va0 st)
def fc (w : Nat → Int32) (n self : Nat) (st x : sTm) : Nat → Nat → Nat → Option (Nat × Nat × (Nat → sTm))
  | 0, _, _ => none
  | m + 1, cl, i => if n ≤ i then none else if (tk w n self st x i).1 = true then some (cl, (tk w n self st x i).2.1, (tk w n self st x i).2.2) else fc w n self st x m (cl + 1) (nx w 60 i)
theorem nx_e {w : Nat → Int32} {q : Nat} : ∀ m i, i ≤ q → q < i + m → w q = 59 → (∀ k, i ≤ k → k < q → ¬ w k = 59) → nx w m i = q + 1
  | 0, i, h1, h2, _, _ => by omega
  | m + 1, i, h1, h2, h3, h4 => by
    unfold nx
    by_cases e : i = q
    · subst e; rw [if_pos h3]
    · rw [if_neg (h4 i (by omega) (by omega))]; exact nx_e m (i + 1) (by omega) (by omega) h3 fun k a b => h4 k (by omega) b
theorem va0_V {st : sTm} (h : tv st.1 st.2) : ∀ k, k < 6 → vV (va0 st k) := by
  intro k _; unfold va0; split
  · exact .inl h
  · exact .inr rfl
section FN
variable {xs : List Int32} {f : mF} {g : mG} {t u c s n d self : Nat} {va : Nat → sTm} {e : Int32}
theorem gd_all {w : Nat → Int32} {i j : Nat} (h6 : self < 6) (hV : ∀ k, k < 6 → vV (va k)) (h : gp w n i j) : i ≤ (gdF w n va self i).2 ∧ (gdF w n va self i).2 ≤ j ∧ ((gdF w n va self i).1 = true → (gdF w n va self i).2 = j) := by
  unfold gdF
  rcases h with ⟨h1, h63, m, a1, a2, a3, a4⟩ | ⟨h1, rfl⟩
  · rw [if_pos ⟨h1, h63⟩]
    obtain ⟨l1, l2, l3, l4⟩ := ev_all (va := va) h6 hV 4 a1
    have := xp_n 4 a1; have := xp_n 4 a4
    by_cases b1 : (ev w va self 4 (i + 1)).1.1 < 9
    · have e1 := l4 b1
      obtain ⟨r1, r2, r3, r4⟩ := ev_all (va := va) h6 hV 4 a4
      rw [if_pos b1, e1]
      by_cases b2 : (ev w va self 4 (m + 1)).1.1 < 9
      · rw [if_pos b2]; exact ⟨by simp only; omega, by simp only; omega, fun _ => r4 b2⟩
      · rw [if_neg b2]; exact ⟨by simp only; omega, by simp only; omega, fun h => (nomatch (h : false = true))⟩
    · rw [if_neg b1]; exact ⟨by simp only; omega, by simp only; omega, fun h => (nomatch (h : false = true))⟩
  · rw [if_neg h1]; exact ⟨Nat.le_refl _, Nat.le_refl _, fun _ => rfl⟩
theorem cTh_lt {x y : sTm} (hx : tv x.1 x.2) (hy : tv y.1 y.2) (nx : isN x.1 x.2 = true) (ny : isN y.1 y.2 = true) : (0 ≤ lg_cmp (cTh x) (cTh y)) = (y.2.getD 0 0 ≤ x.2.getD 0 0) := by
  have h1 := tC_lt hx; have h2 := tC_lt hy
  rw [cTh_t hx, cTh_t hy, lN_cmpge (by omega) (by omega)]
  obtain ⟨i, l⟩ := x
  obtain ⟨j, r⟩ := y
  have p1 := of_decide_eq_true nx
  have p2 := of_decide_eq_true ny
  simp only at p1 p2 hx hy ⊢
  obtain ⟨rfl, p1⟩ := p1
  obtain ⟨rfl, p2⟩ := p2
  obtain ⟨a, ha, rfl⟩ := tv_0l hx
  obtain ⟨b, hb, rfl⟩ := tv_0l hy
  simp only [List.getD_cons_zero] at p1 p2 ⊢
  rw [tC_0, tC_0]; unfold fF; rw [if_pos p1, if_pos p2]; exact propext ⟨fun _ => by omega, fun _ => by omega⟩
theorem c_isInt2 {x : sTm} {M : aM} (hd : 1 ≤ d) (hx : tv x.1 x.2) : am_Y d 54 [.long (cTh x)] M = some (.inl (some (.int (m_b (isN x.1 x.2)))), M) := by
  rw [cTh_t hx]; exact t_isInt hd hx
theorem c_cmp {r : Int32} {x y : sTm} {M : aM} (hd : 1 ≤ d) (hx : tv x.1 x.2) (hy : tv y.1 y.2) : am_X (am_Y d) k_Evaluator_guardHolds 52 [(1, .long (cTh x)), (3, .int r), (4, .long (cTh y))] [] M = some (.inl (some (.int (m_b (cmpT r x y)))), M) := by
  unfold cmpT
  by_cases h1 : r = 61
  · rw [if_pos h1]
    by_cases h2 : x = y
    · simp (maxSteps := 4000000) (disch := first | omega | assumption) only [e_Evaluator_guardHolds_0, e_Evaluator_guardHolds_14, e_Evaluator_guardHolds_28, e_Evaluator_guardHolds_52, e_Evaluator_guardHolds_69, e_Evaluator_guardHolds_70, e_Evaluator_guardHolds_71, e_Evaluator_guardHolds_97, e_Evaluator_guardHolds_98, h1, h2, cTh_eq hy hy, ft3_1, cond_true, i_11, i_01, i_1_0, i_0_1, not_true, not_false_eq_true, if_true, if_false, Bool.true_eq_false, Bool.false_eq_true, decide_true, decide_false]
      rfl
    · simp (maxSteps := 4000000) (disch := first | omega | assumption) only [e_Evaluator_guardHolds_0, e_Evaluator_guardHolds_14, e_Evaluator_guardHolds_28, e_Evaluator_guardHolds_52, e_Evaluator_guardHolds_69, e_Evaluator_guardHolds_70, e_Evaluator_guardHolds_71, e_Evaluator_guardHolds_97, e_Evaluator_guardHolds_98, h1, cTh_eq hx hy, h2, ft3_0, cond_true, i_11, i_01, i_1_0, i_0_1, not_true, not_false_eq_true, if_true, if_false, Bool.true_eq_false, Bool.false_eq_true, decide_true, decide_false]
      rfl
  · rw [if_neg h1]
    by_cases a1 : isN x.1 x.2 = true
    · by_cases a2 : isN y.1 y.2 = true
      · have cl := cTh_lt hx hy a1 a2
        by_cases a3 : x.2.getD 0 0 < y.2.getD 0 0
        · simp (maxSteps := 4000000) (disch := first | omega | assumption) only [e_Evaluator_guardHolds_0, e_Evaluator_guardHolds_14, e_Evaluator_guardHolds_28, e_Evaluator_guardHolds_52, e_Evaluator_guardHolds_69, e_Evaluator_guardHolds_70, e_Evaluator_guardHolds_71, e_Evaluator_guardHolds_97, e_Evaluator_guardHolds_98, h1, ↓bI (c_isInt2 hd hx), ↓bI (c_isInt2 hd hy), a1, a2, a3, m_b0, cl, show ¬ y.2.getD 0 0 ≤ x.2.getD 0 0 by omega, ft3_1, cond_true, Bool.and_self, i_11, i_01, i_1_0, i_0_1, not_true, not_false_eq_true, if_true, if_false, Bool.true_eq_false, Bool.false_eq_true, decide_true, decide_false]
          rfl
        · simp (maxSteps := 4000000) (disch := first | omega | assumption) only [e_Evaluator_guardHolds_0, e_Evaluator_guardHolds_14, e_Evaluator_guardHolds_28, e_Evaluator_guardHolds_52, e_Evaluator_guardHolds_69, e_Evaluator_guardHolds_70, e_Evaluator_guardHolds_71, e_Evaluator_guardHolds_97, e_Evaluator_guardHolds_98, h1, ↓bI (c_isInt2 hd hx), ↓bI (c_isInt2 hd hy), a1, a2, a3, m_b0, cl, show y.2.getD 0 0 ≤ x.2.getD 0 0 by omega, ft3_0, cond_true, Bool.and_false, i_11, i_01, i_1_0, i_0_1, not_true, not_false_eq_true, if_true, if_false, Bool.true_eq_false, Bool.false_eq_true, decide_true, decide_false]
          rfl
      · have a2' : isN y.1 y.2 = false := by simpa using a2
        simp (maxSteps := 4000000) (disch := first | omega | assumption) only [e_Evaluator_guardHolds_0, e_Evaluator_guardHolds_14, e_Evaluator_guardHolds_28, e_Evaluator_guardHolds_52, e_Evaluator_guardHolds_69, e_Evaluator_guardHolds_70, e_Evaluator_guardHolds_71, e_Evaluator_guardHolds_97, e_Evaluator_guardHolds_98, h1, ↓bI (c_isInt2 hd hx), ↓bI (c_isInt2 hd hy), a1, a2', m_b0, ft3_0, cond_true, Bool.false_and, Bool.and_false, i_11, i_01, i_1_0, i_0_1, not_true, not_false_eq_true, if_true, if_false, Bool.true_eq_false, Bool.false_eq_true, decide_true, decide_false]
        rfl
    · have a1' : isN x.1 x.2 = false := by simpa using a1
      simp (maxSteps := 4000000) (disch := first | omega | assumption) only [e_Evaluator_guardHolds_0, e_Evaluator_guardHolds_14, e_Evaluator_guardHolds_28, e_Evaluator_guardHolds_52, e_Evaluator_guardHolds_69, e_Evaluator_guardHolds_70, e_Evaluator_guardHolds_71, e_Evaluator_guardHolds_97, e_Evaluator_guardHolds_98, h1, ↓bI (c_isInt2 hd hx), a1', m_b0, ft3_0, cond_true, Bool.false_and, i_11, i_01, i_1_0, i_0_1, not_true, not_false_eq_true, if_true, if_false, Bool.true_eq_false, Bool.false_eq_true, decide_true, decide_false]
      rfl
theorem c_eval0 {i j : Nat} (hd : 11 ≤ d) (hT : mX f u n) (hs : f 134 2 = nI self) (h6 : self < 6) (hV : ∀ k, k < 6 → vV (va k)) (h : xp (f (u + 1)) n 4 i j) : am_Y d 9 [.ref 134, .int 0] (mM xs (m_u (m_u f 134 3 e) 135 1 (nP i)) (gva g va) t u c s) = some (.inl (some (.long (cTh (ev (f (u + 1)) va self 4 i).1))), mM xs (m_u (m_u f 134 3 (trO e (ev (f (u + 1)) va self 4 i).1)) 135 1 (nP (ev (f (u + 1)) va self 4 i).2)) (gva g va) t u c s) :=
  c_evaluate hT hs h6 (fun k hk => gva_r (g := g) (va := va) hk) hV 4 (o := 0) rfl (by omega) h
theorem c_guard {i j : Nat} (hd : 12 ≤ d) (hT : mX f u n) (hs : f 134 2 = nI self) (h6 : self < 6) (hV : ∀ k, k < 6 → vV (va k)) (h : gp (f (u + 1)) n i j) : ∃ e', am_Y d 8 [.ref 134] (mM xs (m_u (m_u f 134 3 e) 135 1 (nP i)) (gva g va) t u c s) = some (.inl (some (.int (m_b (gdF (f (u + 1)) n va self i).1))), mM xs (m_u (m_u f 134 3 e') 135 1 (nP (gdF (f (u + 1)) n va self i).2)) (gva g va) t u c s) ∧ ((gdF (f (u + 1)) n va self i).1 = true → e' = e) := by
  obtain ⟨d, rfl⟩ : ∃ e, d = e + 1 := ⟨d - 1, by omega⟩
  have h1 : 1 ≤ d := by omega
  have hw := mX_w (v := e) hT
  have ac := c_accept2 (xs := xs) (g := gva g va) (t := t) (c := c) (s := s) (x := 63) (i := i) h1 (mX_u (v := e) hT)
  rw [hw] at ac
  rcases h with ⟨g1, g63, m, a1, a2, a3, a4⟩ | ⟨g1, rfl⟩
  · rw [pa_at ⟨g1, g63⟩] at ac
    obtain ⟨l1, l2, l3, l4⟩ := ev_all (va := va) h6 hV 4 a1
    have ih1 := c_eval0 (xs := xs) (g := g) (t := t) (c := c) (s := s) (d := d) (e := e) (by omega) hT hs h6 hV a1
    unfold gdF
    rw [if_pos ⟨g1, g63⟩]
    by_cases b1 : (ev (f (u + 1)) va self 4 (i + 1)).1.1 < 9
    · have e1 := l4 b1
      rw [trO_9 b1, e1] at ih1
      rw [if_pos b1, e1]
      obtain ⟨r1, r2, r3, r4⟩ := ev_all (va := va) h6 hV 4 a4
      have n1 := c_next2 (xs := xs) (g := gva g va) (t := t) (c := c) (s := s) (i := m) h1 (mX_u (v := e) hT)
      rw [hw, show px (f (u + 1)) n m = f (u + 1) m from if_pos a2, if_pos a2] at n1
      have ih2 := c_eval0 (xs := xs) (g := g) (t := t) (c := c) (s := s) (d := d) (e := e) (by omega) hT hs h6 hV a4
      by_cases b2 : (ev (f (u + 1)) va self 4 (m + 1)).1.1 < 9
      · rw [if_pos b2]
        rw [trO_9 b2] at ih2
        refine ⟨e, ?_, fun _ => rfl⟩
        simp (maxSteps := 4000000) (disch := first | omega | assumption) only [↓b_ix, ↓b_l3, ↓b_a3_0, ↓b_a3_1, ↓b_a3_2, ↓b_l4, ↓b_a4_0, ↓b_a4_1, ↓b_a4_2, ↓b_a4_3, ↓b_l129, ↓b_a129_0, ↓b_l130, ↓b_i130_1, ↓b_wi130_1, ↓b_l133, ↓b_a133_0, ↓b_a133_1, ↓b_i133_2, ↓b_wi133_2, ↓b_j133_3, ↓b_wj133_3, ↓b_i133_4, ↓b_wi133_4, ↓b_l134, ↓b_a134_0, ↓b_a134_1, ↓b_i134_2, ↓b_wi134_2, ↓b_i134_3, ↓b_wi134_3, ↓b_l135, ↓b_i135_1, ↓b_wi135_1, ↓b_l139, ↓b_a139_0, ↓b_a139_1, ↓b_a139_2, ↓b_a139_3, ↓b_a139_4, ↓b_a139_5, ↓b_a139_6, ↓b_a139_7, ↓b_a139_8, ↓b_a139_9, ↓b_a139_10, ↓b_a139_11, ↓b_a139_12, ↓b_a139_13, ↓b_a139_14, ↓b_i139_15, ↓b_wi139_15, ↓b_i139_16, ↓b_wi139_16, ↓b_i139_17, ↓b_wi139_17, ↓b_a139_18, ↓b_i139_19, ↓b_wi139_19, ↓b_i139_20, ↓b_wi139_20, ↓b_i139_21, ↓b_wi139_21, ↓b_l6, ↓b_i6, ↓b_wi6, ↓b_l140, ↓b_i140, ↓b_wi140, ↓b_l141, ↓b_i141, ↓b_wi141, ↓b_l142, ↓b_i142, ↓b_wi142, ↓b_l143, ↓b_i143, ↓b_wi143, ↓b_l144, ↓b_j144, ↓b_wj144, ↓b_l145, ↓b_j145, ↓b_wj145, ↓b_l146, ↓b_i146, ↓b_wi146, ↓b_l147, ↓b_i147, ↓b_wi147, ↓b_l148, ↓b_i148, ↓b_wi148, ↓b_l149, ↓b_i149, ↓b_wi149, ↓b_l150, ↓b_j150, ↓b_wj150, ↓b_l151, ↓b_i151, ↓b_wi151, ↓b_l152, ↓b_j152, ↓b_wj152, ↓b_l153, ↓b_i153, ↓b_wi153, ↓b_l154, ↓b_i154, ↓b_wi154, ↓b_l155, ↓b_j155, ↓b_wj155, ↓b_l156, ↓b_j156, ↓b_wj156, ↓b_l138, ↓b_j138, ↓b_wj138, ↓b_a5, ↓b_a13, ↓b_a44, ↓b_lA, ↓b_aA_0, ↓b_aA_1, ↓b_iA_2, ↓b_wiA_2, ↓b_iA_4, ↓b_wiA_4, ↓b_iA_5, ↓b_wiA_5, ↓b_iA_6, ↓b_wiA_6, ↓b_jA_3, ↓b_wjA_3, ↓b_lT, ↓b_lTc, ↓b_aT, ↓b_iT, ↓b_wiT, ↓b_iTc, ↓b_wiTc, ↓b_lW, ↓b_lWc, ↓b_aW, ↓b_iW, ↓b_wiW, ↓b_jWc, ↓b_wjWc, ↓b_rt, ↓b_ru, ↓b_wt, ↓b_wu, ↓b_0l, ↓b_0, ↓b_1, ↓b_2, m_tk, ↓reduceIte, cond_true, cond_false, Option.bind_some, y_Evaluator_guardHolds, e_Evaluator_guardHolds_0, e_Evaluator_guardHolds_14, e_Evaluator_guardHolds_28, e_Evaluator_guardHolds_69, e_Evaluator_guardHolds_70, e_Evaluator_guardHolds_71, e_Evaluator_guardHolds_97, e_Evaluator_guardHolds_98, ↓bI ac, m_b0, ↓bJ ih1, cTh_0 l1, cTh_0 r1, b1, b2, ↓bI n1, ↓bJ ih2, c_cmp h1 (vT_9 l1 b1) (vT_9 r1 b2), i_11, i_01, i_1_0, i_0_1, not_true, not_false_eq_true, if_true, if_false, Bool.true_eq_false, Bool.false_eq_true, decide_true, decide_false]
      · rw [if_neg b2]
        refine ⟨trO e (ev (f (u + 1)) va self 4 (m + 1)).1, ?_, fun h => (nomatch (h : false = true))⟩
        simp (maxSteps := 4000000) (disch := first | omega | assumption) only [↓b_ix, ↓b_l3, ↓b_a3_0, ↓b_a3_1, ↓b_a3_2, ↓b_l4, ↓b_a4_0, ↓b_a4_1, ↓b_a4_2, ↓b_a4_3, ↓b_l129, ↓b_a129_0, ↓b_l130, ↓b_i130_1, ↓b_wi130_1, ↓b_l133, ↓b_a133_0, ↓b_a133_1, ↓b_i133_2, ↓b_wi133_2, ↓b_j133_3, ↓b_wj133_3, ↓b_i133_4, ↓b_wi133_4, ↓b_l134, ↓b_a134_0, ↓b_a134_1, ↓b_i134_2, ↓b_wi134_2, ↓b_i134_3, ↓b_wi134_3, ↓b_l135, ↓b_i135_1, ↓b_wi135_1, ↓b_l139, ↓b_a139_0, ↓b_a139_1, ↓b_a139_2, ↓b_a139_3, ↓b_a139_4, ↓b_a139_5, ↓b_a139_6, ↓b_a139_7, ↓b_a139_8, ↓b_a139_9, ↓b_a139_10, ↓b_a139_11, ↓b_a139_12, ↓b_a139_13, ↓b_a139_14, ↓b_i139_15, ↓b_wi139_15, ↓b_i139_16, ↓b_wi139_16, ↓b_i139_17, ↓b_wi139_17, ↓b_a139_18, ↓b_i139_19, ↓b_wi139_19, ↓b_i139_20, ↓b_wi139_20, ↓b_i139_21, ↓b_wi139_21, ↓b_l6, ↓b_i6, ↓b_wi6, ↓b_l140, ↓b_i140, ↓b_wi140, ↓b_l141, ↓b_i141, ↓b_wi141, ↓b_l142, ↓b_i142, ↓b_wi142, ↓b_l143, ↓b_i143, ↓b_wi143, ↓b_l144, ↓b_j144, ↓b_wj144, ↓b_l145, ↓b_j145, ↓b_wj145, ↓b_l146, ↓b_i146, ↓b_wi146, ↓b_l147, ↓b_i147, ↓b_wi147, ↓b_l148, ↓b_i148, ↓b_wi148, ↓b_l149, ↓b_i149, ↓b_wi149, ↓b_l150, ↓b_j150, ↓b_wj150, ↓b_l151, ↓b_i151, ↓b_wi151, ↓b_l152, ↓b_j152, ↓b_wj152, ↓b_l153, ↓b_i153, ↓b_wi153, ↓b_l154, ↓b_i154, ↓b_wi154, ↓b_l155, ↓b_j155, ↓b_wj155, ↓b_l156, ↓b_j156, ↓b_wj156, ↓b_l138, ↓b_j138, ↓b_wj138, ↓b_a5, ↓b_a13, ↓b_a44, ↓b_lA, ↓b_aA_0, ↓b_aA_1, ↓b_iA_2, ↓b_wiA_2, ↓b_iA_4, ↓b_wiA_4, ↓b_iA_5, ↓b_wiA_5, ↓b_iA_6, ↓b_wiA_6, ↓b_jA_3, ↓b_wjA_3, ↓b_lT, ↓b_lTc, ↓b_aT, ↓b_iT, ↓b_wiT, ↓b_iTc, ↓b_wiTc, ↓b_lW, ↓b_lWc, ↓b_aW, ↓b_iW, ↓b_wiW, ↓b_jWc, ↓b_wjWc, ↓b_rt, ↓b_ru, ↓b_wt, ↓b_wu, ↓b_0l, ↓b_0, ↓b_1, ↓b_2, m_tk, ↓reduceIte, cond_true, cond_false, Option.bind_some, y_Evaluator_guardHolds, e_Evaluator_guardHolds_0, e_Evaluator_guardHolds_14, e_Evaluator_guardHolds_28, e_Evaluator_guardHolds_69, e_Evaluator_guardHolds_70, e_Evaluator_guardHolds_71, e_Evaluator_guardHolds_97, e_Evaluator_guardHolds_98, ↓bI ac, m_b0, ↓bJ ih1, cTh_0 l1, cTh_0 r1, b1, b2, ↓bI n1, ↓bJ ih2, i_11, i_01, i_1_0, i_0_1, not_true, not_false_eq_true, if_true, if_false, Bool.true_eq_false, Bool.false_eq_true, decide_true, decide_false]
        rfl
    · rw [if_neg b1]
      refine ⟨trO e (ev (f (u + 1)) va self 4 (i + 1)).1, ?_, fun h => (nomatch (h : false = true))⟩
      simp (maxSteps := 4000000) (disch := first | omega | assumption) only [↓b_ix, ↓b_l3, ↓b_a3_0, ↓b_a3_1, ↓b_a3_2, ↓b_l4, ↓b_a4_0, ↓b_a4_1, ↓b_a4_2, ↓b_a4_3, ↓b_l129, ↓b_a129_0, ↓b_l130, ↓b_i130_1, ↓b_wi130_1, ↓b_l133, ↓b_a133_0, ↓b_a133_1, ↓b_i133_2, ↓b_wi133_2, ↓b_j133_3, ↓b_wj133_3, ↓b_i133_4, ↓b_wi133_4, ↓b_l134, ↓b_a134_0, ↓b_a134_1, ↓b_i134_2, ↓b_wi134_2, ↓b_i134_3, ↓b_wi134_3, ↓b_l135, ↓b_i135_1, ↓b_wi135_1, ↓b_l139, ↓b_a139_0, ↓b_a139_1, ↓b_a139_2, ↓b_a139_3, ↓b_a139_4, ↓b_a139_5, ↓b_a139_6, ↓b_a139_7, ↓b_a139_8, ↓b_a139_9, ↓b_a139_10, ↓b_a139_11, ↓b_a139_12, ↓b_a139_13, ↓b_a139_14, ↓b_i139_15, ↓b_wi139_15, ↓b_i139_16, ↓b_wi139_16, ↓b_i139_17, ↓b_wi139_17, ↓b_a139_18, ↓b_i139_19, ↓b_wi139_19, ↓b_i139_20, ↓b_wi139_20, ↓b_i139_21, ↓b_wi139_21, ↓b_l6, ↓b_i6, ↓b_wi6, ↓b_l140, ↓b_i140, ↓b_wi140, ↓b_l141, ↓b_i141, ↓b_wi141, ↓b_l142, ↓b_i142, ↓b_wi142, ↓b_l143, ↓b_i143, ↓b_wi143, ↓b_l144, ↓b_j144, ↓b_wj144, ↓b_l145, ↓b_j145, ↓b_wj145, ↓b_l146, ↓b_i146, ↓b_wi146, ↓b_l147, ↓b_i147, ↓b_wi147, ↓b_l148, ↓b_i148, ↓b_wi148, ↓b_l149, ↓b_i149, ↓b_wi149, ↓b_l150, ↓b_j150, ↓b_wj150, ↓b_l151, ↓b_i151, ↓b_wi151, ↓b_l152, ↓b_j152, ↓b_wj152, ↓b_l153, ↓b_i153, ↓b_wi153, ↓b_l154, ↓b_i154, ↓b_wi154, ↓b_l155, ↓b_j155, ↓b_wj155, ↓b_l156, ↓b_j156, ↓b_wj156, ↓b_l138, ↓b_j138, ↓b_wj138, ↓b_a5, ↓b_a13, ↓b_a44, ↓b_lA, ↓b_aA_0, ↓b_aA_1, ↓b_iA_2, ↓b_wiA_2, ↓b_iA_4, ↓b_wiA_4, ↓b_iA_5, ↓b_wiA_5, ↓b_iA_6, ↓b_wiA_6, ↓b_jA_3, ↓b_wjA_3, ↓b_lT, ↓b_lTc, ↓b_aT, ↓b_iT, ↓b_wiT, ↓b_iTc, ↓b_wiTc, ↓b_lW, ↓b_lWc, ↓b_aW, ↓b_iW, ↓b_wiW, ↓b_jWc, ↓b_wjWc, ↓b_rt, ↓b_ru, ↓b_wt, ↓b_wu, ↓b_0l, ↓b_0, ↓b_1, ↓b_2, m_tk, ↓reduceIte, cond_true, cond_false, Option.bind_some, y_Evaluator_guardHolds, e_Evaluator_guardHolds_0, e_Evaluator_guardHolds_14, e_Evaluator_guardHolds_28, e_Evaluator_guardHolds_69, e_Evaluator_guardHolds_70, e_Evaluator_guardHolds_71, e_Evaluator_guardHolds_97, e_Evaluator_guardHolds_98, ↓bI ac, m_b0, ↓bJ ih1, cTh_0 l1, b1, i_11, i_01, i_1_0, i_0_1, not_true, not_false_eq_true, if_true, if_false, Bool.true_eq_false, Bool.false_eq_true, decide_true, decide_false]
      rfl
  · rw [pa_no g1] at ac
    refine ⟨e, ?_, fun _ => rfl⟩
    unfold gdF
    rw [if_neg g1]
    simp (maxSteps := 4000000) (disch := first | omega | assumption) only [↓b_ix, ↓b_l3, ↓b_a3_0, ↓b_a3_1, ↓b_a3_2, ↓b_l4, ↓b_a4_0, ↓b_a4_1, ↓b_a4_2, ↓b_a4_3, ↓b_l129, ↓b_a129_0, ↓b_l130, ↓b_i130_1, ↓b_wi130_1, ↓b_l133, ↓b_a133_0, ↓b_a133_1, ↓b_i133_2, ↓b_wi133_2, ↓b_j133_3, ↓b_wj133_3, ↓b_i133_4, ↓b_wi133_4, ↓b_l134, ↓b_a134_0, ↓b_a134_1, ↓b_i134_2, ↓b_wi134_2, ↓b_i134_3, ↓b_wi134_3, ↓b_l135, ↓b_i135_1, ↓b_wi135_1, ↓b_l139, ↓b_a139_0, ↓b_a139_1, ↓b_a139_2, ↓b_a139_3, ↓b_a139_4, ↓b_a139_5, ↓b_a139_6, ↓b_a139_7, ↓b_a139_8, ↓b_a139_9, ↓b_a139_10, ↓b_a139_11, ↓b_a139_12, ↓b_a139_13, ↓b_a139_14, ↓b_i139_15, ↓b_wi139_15, ↓b_i139_16, ↓b_wi139_16, ↓b_i139_17, ↓b_wi139_17, ↓b_a139_18, ↓b_i139_19, ↓b_wi139_19, ↓b_i139_20, ↓b_wi139_20, ↓b_i139_21, ↓b_wi139_21, ↓b_l6, ↓b_i6, ↓b_wi6, ↓b_l140, ↓b_i140, ↓b_wi140, ↓b_l141, ↓b_i141, ↓b_wi141, ↓b_l142, ↓b_i142, ↓b_wi142, ↓b_l143, ↓b_i143, ↓b_wi143, ↓b_l144, ↓b_j144, ↓b_wj144, ↓b_l145, ↓b_j145, ↓b_wj145, ↓b_l146, ↓b_i146, ↓b_wi146, ↓b_l147, ↓b_i147, ↓b_wi147, ↓b_l148, ↓b_i148, ↓b_wi148, ↓b_l149, ↓b_i149, ↓b_wi149, ↓b_l150, ↓b_j150, ↓b_wj150, ↓b_l151, ↓b_i151, ↓b_wi151, ↓b_l152, ↓b_j152, ↓b_wj152, ↓b_l153, ↓b_i153, ↓b_wi153, ↓b_l154, ↓b_i154, ↓b_wi154, ↓b_l155, ↓b_j155, ↓b_wj155, ↓b_l156, ↓b_j156, ↓b_wj156, ↓b_l138, ↓b_j138, ↓b_wj138, ↓b_a5, ↓b_a13, ↓b_a44, ↓b_lA, ↓b_aA_0, ↓b_aA_1, ↓b_iA_2, ↓b_wiA_2, ↓b_iA_4, ↓b_wiA_4, ↓b_iA_5, ↓b_wiA_5, ↓b_iA_6, ↓b_wiA_6, ↓b_jA_3, ↓b_wjA_3, ↓b_lT, ↓b_lTc, ↓b_aT, ↓b_iT, ↓b_wiT, ↓b_iTc, ↓b_wiTc, ↓b_lW, ↓b_lWc, ↓b_aW, ↓b_iW, ↓b_wiW, ↓b_jWc, ↓b_wjWc, ↓b_rt, ↓b_ru, ↓b_wt, ↓b_wu, ↓b_0l, ↓b_0, ↓b_1, ↓b_2, m_tk, ↓reduceIte, cond_true, cond_false, Option.bind_some, y_Evaluator_guardHolds, e_Evaluator_guardHolds_0, e_Evaluator_guardHolds_14, e_Evaluator_guardHolds_28, e_Evaluator_guardHolds_69, e_Evaluator_guardHolds_70, e_Evaluator_guardHolds_71, e_Evaluator_guardHolds_97, e_Evaluator_guardHolds_98, ↓bI ac, m_b0, i_11, i_01, i_1_0, i_0_1, not_true, not_false_eq_true, if_true, if_false, Bool.true_eq_false, Bool.false_eq_true, decide_true, decide_false]
    rfl
theorem c_beginL {st : sTm} {cal : aY} : ∀ q k, q + k = 6 → am_X cal k_Evaluator_begin 13 [(0, .ref 134), (2, .long (cTh st)), (4, .int (nI k))] [] (mM xs f (fun x j => if x = 138 ∧ j < k then cTh (va0 st j) else g x j) t u c s) = some (.inl none, mM xs f (gva g (va0 st)) t u c s)
  | 0, k, hq => by
    have : k = 6 := by omega
    subst this
    rw [e_Evaluator_begin_13, l_6, if_pos (nI_le (by omega) (by omega)), e_Evaluator_begin_44]; rfl
  | q + 1, k, hq => by
    have ih := c_beginL (st := st) (cal := cal) q (k + 1) (by omega)
    have e6 : ¬ nI 6 ≤ nI k := by rw [nI_leI (by omega) (by omega)]; omega
    have hw : m_w (fun x j => if x = 138 ∧ j < k then cTh (va0 st j) else g x j) 138 k (cTh (va0 st k)) = (fun x j => if x = 138 ∧ j < k + 1 then cTh (va0 st j) else g x j) := by
      funext x j
      simp only [m_w]
      by_cases a1 : x = 138 ∧ j = k
      · rw [if_pos a1, if_pos (by omega), a1.2]
      · rw [if_neg a1]
        by_cases a2 : x = 138 ∧ j < k
        · rw [if_pos a2, if_pos (by omega)]
        · rw [if_neg a2, if_neg (by omega)]
    rw [← ih, ← hw, e_Evaluator_begin_13, l_6, if_neg e6]
    by_cases h5 : k = 5
    · have : va0 st k = st := by unfold va0; rw [if_pos h5]
      rw [this, h5]
      simp (maxSteps := 4000000) (disch := first | omega | assumption) only [↓b_ix, ↓b_l3, ↓b_a3_0, ↓b_a3_1, ↓b_a3_2, ↓b_l4, ↓b_a4_0, ↓b_a4_1, ↓b_a4_2, ↓b_a4_3, ↓b_l129, ↓b_a129_0, ↓b_l130, ↓b_i130_1, ↓b_wi130_1, ↓b_l133, ↓b_a133_0, ↓b_a133_1, ↓b_i133_2, ↓b_wi133_2, ↓b_j133_3, ↓b_wj133_3, ↓b_i133_4, ↓b_wi133_4, ↓b_l134, ↓b_a134_0, ↓b_a134_1, ↓b_i134_2, ↓b_wi134_2, ↓b_i134_3, ↓b_wi134_3, ↓b_l135, ↓b_i135_1, ↓b_wi135_1, ↓b_l139, ↓b_a139_0, ↓b_a139_1, ↓b_a139_2, ↓b_a139_3, ↓b_a139_4, ↓b_a139_5, ↓b_a139_6, ↓b_a139_7, ↓b_a139_8, ↓b_a139_9, ↓b_a139_10, ↓b_a139_11, ↓b_a139_12, ↓b_a139_13, ↓b_a139_14, ↓b_i139_15, ↓b_wi139_15, ↓b_i139_16, ↓b_wi139_16, ↓b_i139_17, ↓b_wi139_17, ↓b_a139_18, ↓b_i139_19, ↓b_wi139_19, ↓b_i139_20, ↓b_wi139_20, ↓b_i139_21, ↓b_wi139_21, ↓b_l6, ↓b_i6, ↓b_wi6, ↓b_l140, ↓b_i140, ↓b_wi140, ↓b_l141, ↓b_i141, ↓b_wi141, ↓b_l142, ↓b_i142, ↓b_wi142, ↓b_l143, ↓b_i143, ↓b_wi143, ↓b_l144, ↓b_j144, ↓b_wj144, ↓b_l145, ↓b_j145, ↓b_wj145, ↓b_l146, ↓b_i146, ↓b_wi146, ↓b_l147, ↓b_i147, ↓b_wi147, ↓b_l148, ↓b_i148, ↓b_wi148, ↓b_l149, ↓b_i149, ↓b_wi149, ↓b_l150, ↓b_j150, ↓b_wj150, ↓b_l151, ↓b_i151, ↓b_wi151, ↓b_l152, ↓b_j152, ↓b_wj152, ↓b_l153, ↓b_i153, ↓b_wi153, ↓b_l154, ↓b_i154, ↓b_wi154, ↓b_l155, ↓b_j155, ↓b_wj155, ↓b_l156, ↓b_j156, ↓b_wj156, ↓b_l138, ↓b_j138, ↓b_wj138, ↓b_a5, ↓b_a13, ↓b_a44, ↓b_lA, ↓b_aA_0, ↓b_aA_1, ↓b_iA_2, ↓b_wiA_2, ↓b_iA_4, ↓b_wiA_4, ↓b_iA_5, ↓b_wiA_5, ↓b_iA_6, ↓b_wiA_6, ↓b_jA_3, ↓b_wjA_3, ↓b_lT, ↓b_lTc, ↓b_aT, ↓b_iT, ↓b_wiT, ↓b_iTc, ↓b_wiTc, ↓b_lW, ↓b_lWc, ↓b_aW, ↓b_iW, ↓b_wiW, ↓b_jWc, ↓b_wjWc, ↓b_rt, ↓b_ru, ↓b_wt, ↓b_wu, ↓b_0l, ↓b_0, ↓b_1, ↓b_2, m_tk, ↓reduceIte, cond_true, cond_false, Option.bind_some, e_Evaluator_begin_0, e_Evaluator_begin_36, e_Evaluator_begin_37, e_Evaluator_begin_44, show nI 5 = 5 from rfl, show (5 : Int32) + 1 = nI 6 from rfl, ↓show am_ix 5 = some 5 from rfl, i_11, i_01, i_1_0, i_0_1, not_true, not_false_eq_true, if_true, if_false, Bool.true_eq_false, Bool.false_eq_true, decide_true, decide_false]
    · have : va0 st k = (10, []) := by unfold va0; rw [if_neg h5]
      have n5 : ¬ nI k = 5 := by rw [l_5, nI_eq (by omega) (by omega)]; exact h5
      rw [this, cTh_10]
      simp (maxSteps := 4000000) (disch := first | omega | assumption) only [↓b_ix, ↓b_l3, ↓b_a3_0, ↓b_a3_1, ↓b_a3_2, ↓b_l4, ↓b_a4_0, ↓b_a4_1, ↓b_a4_2, ↓b_a4_3, ↓b_l129, ↓b_a129_0, ↓b_l130, ↓b_i130_1, ↓b_wi130_1, ↓b_l133, ↓b_a133_0, ↓b_a133_1, ↓b_i133_2, ↓b_wi133_2, ↓b_j133_3, ↓b_wj133_3, ↓b_i133_4, ↓b_wi133_4, ↓b_l134, ↓b_a134_0, ↓b_a134_1, ↓b_i134_2, ↓b_wi134_2, ↓b_i134_3, ↓b_wi134_3, ↓b_l135, ↓b_i135_1, ↓b_wi135_1, ↓b_l139, ↓b_a139_0, ↓b_a139_1, ↓b_a139_2, ↓b_a139_3, ↓b_a139_4, ↓b_a139_5, ↓b_a139_6, ↓b_a139_7, ↓b_a139_8, ↓b_a139_9, ↓b_a139_10, ↓b_a139_11, ↓b_a139_12, ↓b_a139_13, ↓b_a139_14, ↓b_i139_15, ↓b_wi139_15, ↓b_i139_16, ↓b_wi139_16, ↓b_i139_17, ↓b_wi139_17, ↓b_a139_18, ↓b_i139_19, ↓b_wi139_19, ↓b_i139_20, ↓b_wi139_20, ↓b_i139_21, ↓b_wi139_21, ↓b_l6, ↓b_i6, ↓b_wi6, ↓b_l140, ↓b_i140, ↓b_wi140, ↓b_l141, ↓b_i141, ↓b_wi141, ↓b_l142, ↓b_i142, ↓b_wi142, ↓b_l143, ↓b_i143, ↓b_wi143, ↓b_l144, ↓b_j144, ↓b_wj144, ↓b_l145, ↓b_j145, ↓b_wj145, ↓b_l146, ↓b_i146, ↓b_wi146, ↓b_l147, ↓b_i147, ↓b_wi147, ↓b_l148, ↓b_i148, ↓b_wi148, ↓b_l149, ↓b_i149, ↓b_wi149, ↓b_l150, ↓b_j150, ↓b_wj150, ↓b_l151, ↓b_i151, ↓b_wi151, ↓b_l152, ↓b_j152, ↓b_wj152, ↓b_l153, ↓b_i153, ↓b_wi153, ↓b_l154, ↓b_i154, ↓b_wi154, ↓b_l155, ↓b_j155, ↓b_wj155, ↓b_l156, ↓b_j156, ↓b_wj156, ↓b_l138, ↓b_j138, ↓b_wj138, ↓b_a5, ↓b_a13, ↓b_a44, ↓b_lA, ↓b_aA_0, ↓b_aA_1, ↓b_iA_2, ↓b_wiA_2, ↓b_iA_4, ↓b_wiA_4, ↓b_iA_5, ↓b_wiA_5, ↓b_iA_6, ↓b_wiA_6, ↓b_jA_3, ↓b_wjA_3, ↓b_lT, ↓b_lTc, ↓b_aT, ↓b_iT, ↓b_wiT, ↓b_iTc, ↓b_wiTc, ↓b_lW, ↓b_lWc, ↓b_aW, ↓b_iW, ↓b_wiW, ↓b_jWc, ↓b_wjWc, ↓b_rt, ↓b_ru, ↓b_wt, ↓b_wu, ↓b_0l, ↓b_0, ↓b_1, ↓b_2, m_tk, ↓reduceIte, cond_true, cond_false, Option.bind_some, e_Evaluator_begin_0, e_Evaluator_begin_36, e_Evaluator_begin_37, e_Evaluator_begin_44, n5, nI_1, i_11, i_01, i_1_0, i_0_1, not_true, not_false_eq_true, if_true, if_false, Bool.true_eq_false, Bool.false_eq_true, decide_true, decide_false]
theorem c_begin {st : sTm} {x p : Int32} (hd : 1 ≤ d) : am_Y d 4 [.ref 134, .int x, .long (cTh st)] (mM xs (m_u f 135 1 p) g t u c s) = some (.inl none, mM xs (m_u (m_u (m_u f 134 2 x) 134 3 0) 135 1 p) (gva g (va0 st)) t u c s) := by
  obtain ⟨d, rfl⟩ : ∃ e, d = e + 1 := ⟨d - 1, by omega⟩
  have hc : m_u (m_u (m_u f 135 1 p) 134 2 x) 134 3 0 = m_u (m_u (m_u f 134 2 x) 134 3 0) 135 1 p := by
    funext b j
    simp only [m_u]
    by_cases h1 : b = 135 ∧ j = 1
    · rw [if_pos h1, if_pos h1, if_neg (by omega), if_neg (by omega)]
    · rw [if_neg h1, if_neg h1]
  have ih := c_beginL (xs := xs) (f := m_u (m_u (m_u f 134 2 x) 134 3 0) 135 1 p) (g := g) (t := t) (u := u) (c := c) (s := s) (st := st) (cal := am_Y d) 6 0 rfl
  rw [show (fun x j => if x = 138 ∧ j < 0 then cTh (va0 st j) else g x j) = g from (by funext x j; rw [if_neg (by omega)])] at ih
  rw [← ih, ← hc]
  simp (maxSteps := 4000000) (disch := first | omega | assumption) only [↓b_ix, ↓b_l3, ↓b_a3_0, ↓b_a3_1, ↓b_a3_2, ↓b_l4, ↓b_a4_0, ↓b_a4_1, ↓b_a4_2, ↓b_a4_3, ↓b_l129, ↓b_a129_0, ↓b_l130, ↓b_i130_1, ↓b_wi130_1, ↓b_l133, ↓b_a133_0, ↓b_a133_1, ↓b_i133_2, ↓b_wi133_2, ↓b_j133_3, ↓b_wj133_3, ↓b_i133_4, ↓b_wi133_4, ↓b_l134, ↓b_a134_0, ↓b_a134_1, ↓b_i134_2, ↓b_wi134_2, ↓b_i134_3, ↓b_wi134_3, ↓b_l135, ↓b_i135_1, ↓b_wi135_1, ↓b_l139, ↓b_a139_0, ↓b_a139_1, ↓b_a139_2, ↓b_a139_3, ↓b_a139_4, ↓b_a139_5, ↓b_a139_6, ↓b_a139_7, ↓b_a139_8, ↓b_a139_9, ↓b_a139_10, ↓b_a139_11, ↓b_a139_12, ↓b_a139_13, ↓b_a139_14, ↓b_i139_15, ↓b_wi139_15, ↓b_i139_16, ↓b_wi139_16, ↓b_i139_17, ↓b_wi139_17, ↓b_a139_18, ↓b_i139_19, ↓b_wi139_19, ↓b_i139_20, ↓b_wi139_20, ↓b_i139_21, ↓b_wi139_21, ↓b_l6, ↓b_i6, ↓b_wi6, ↓b_l140, ↓b_i140, ↓b_wi140, ↓b_l141, ↓b_i141, ↓b_wi141, ↓b_l142, ↓b_i142, ↓b_wi142, ↓b_l143, ↓b_i143, ↓b_wi143, ↓b_l144, ↓b_j144, ↓b_wj144, ↓b_l145, ↓b_j145, ↓b_wj145, ↓b_l146, ↓b_i146, ↓b_wi146, ↓b_l147, ↓b_i147, ↓b_wi147, ↓b_l148, ↓b_i148, ↓b_wi148, ↓b_l149, ↓b_i149, ↓b_wi149, ↓b_l150, ↓b_j150, ↓b_wj150, ↓b_l151, ↓b_i151, ↓b_wi151, ↓b_l152, ↓b_j152, ↓b_wj152, ↓b_l153, ↓b_i153, ↓b_wi153, ↓b_l154, ↓b_i154, ↓b_wi154, ↓b_l155, ↓b_j155, ↓b_wj155, ↓b_l156, ↓b_j156, ↓b_wj156, ↓b_l138, ↓b_j138, ↓b_wj138, ↓b_a5, ↓b_a13, ↓b_a44, ↓b_lA, ↓b_aA_0, ↓b_aA_1, ↓b_iA_2, ↓b_wiA_2, ↓b_iA_4, ↓b_wiA_4, ↓b_iA_5, ↓b_wiA_5, ↓b_iA_6, ↓b_wiA_6, ↓b_jA_3, ↓b_wjA_3, ↓b_lT, ↓b_lTc, ↓b_aT, ↓b_iT, ↓b_wiT, ↓b_iTc, ↓b_wiTc, ↓b_lW, ↓b_lWc, ↓b_aW, ↓b_iW, ↓b_wiW, ↓b_jWc, ↓b_wjWc, ↓b_rt, ↓b_ru, ↓b_wt, ↓b_wu, ↓b_0l, ↓b_0, ↓b_1, ↓b_2, m_tk, ↓reduceIte, cond_true, cond_false, Option.bind_some, y_Evaluator_begin, e_Evaluator_begin_0, e_Evaluator_begin_36, e_Evaluator_begin_37, e_Evaluator_begin_44]
  rfl
theorem c_skipL {q : Nat} {cal : aY} (hcal : ∀ i, cal 28 [.ref 135] (mM xs (m_u f 135 1 (nP i)) g t u c s) = some (.inl (some (.int (px (f (u + 1)) n i))), mM xs (m_u f 135 1 (nP (if i < n then i + 1 else i))) g t u c s)) (hq : q < n) (h59 : f (u + 1) q = 59) : ∀ m p k, p + m = q → k + m < 60 → (∀ k, p ≤ k → k < q → ¬ f (u + 1) k = 59) → am_X cal k_Reader_skipPast 2 [(0, .ref 135), (1, .int 59), (2, .int (nI k))] [] (mM xs (m_u f 135 1 (nP p)) g t u c s) = some (.inl none, mM xs (m_u f 135 1 (nP (q + 1))) g t u c s)
  | 0, p, k, h1, h2, h3 => by
    have : p = q := by omega
    subst this
    have n1 := hcal p
    rw [show px (f (u + 1)) n p = f (u + 1) p from if_pos hq, if_pos hq, h59] at n1
    rw [e_Reader_skipPast_2]
    simp (maxSteps := 4000000) (disch := first | omega | assumption) only [↓b_ix, ↓b_l3, ↓b_a3_0, ↓b_a3_1, ↓b_a3_2, ↓b_l4, ↓b_a4_0, ↓b_a4_1, ↓b_a4_2, ↓b_a4_3, ↓b_l129, ↓b_a129_0, ↓b_l130, ↓b_i130_1, ↓b_wi130_1, ↓b_l133, ↓b_a133_0, ↓b_a133_1, ↓b_i133_2, ↓b_wi133_2, ↓b_j133_3, ↓b_wj133_3, ↓b_i133_4, ↓b_wi133_4, ↓b_l134, ↓b_a134_0, ↓b_a134_1, ↓b_i134_2, ↓b_wi134_2, ↓b_i134_3, ↓b_wi134_3, ↓b_l135, ↓b_i135_1, ↓b_wi135_1, ↓b_l139, ↓b_a139_0, ↓b_a139_1, ↓b_a139_2, ↓b_a139_3, ↓b_a139_4, ↓b_a139_5, ↓b_a139_6, ↓b_a139_7, ↓b_a139_8, ↓b_a139_9, ↓b_a139_10, ↓b_a139_11, ↓b_a139_12, ↓b_a139_13, ↓b_a139_14, ↓b_i139_15, ↓b_wi139_15, ↓b_i139_16, ↓b_wi139_16, ↓b_i139_17, ↓b_wi139_17, ↓b_a139_18, ↓b_i139_19, ↓b_wi139_19, ↓b_i139_20, ↓b_wi139_20, ↓b_i139_21, ↓b_wi139_21, ↓b_l6, ↓b_i6, ↓b_wi6, ↓b_l140, ↓b_i140, ↓b_wi140, ↓b_l141, ↓b_i141, ↓b_wi141, ↓b_l142, ↓b_i142, ↓b_wi142, ↓b_l143, ↓b_i143, ↓b_wi143, ↓b_l144, ↓b_j144, ↓b_wj144, ↓b_l145, ↓b_j145, ↓b_wj145, ↓b_l146, ↓b_i146, ↓b_wi146, ↓b_l147, ↓b_i147, ↓b_wi147, ↓b_l148, ↓b_i148, ↓b_wi148, ↓b_l149, ↓b_i149, ↓b_wi149, ↓b_l150, ↓b_j150, ↓b_wj150, ↓b_l151, ↓b_i151, ↓b_wi151, ↓b_l152, ↓b_j152, ↓b_wj152, ↓b_l153, ↓b_i153, ↓b_wi153, ↓b_l154, ↓b_i154, ↓b_wi154, ↓b_l155, ↓b_j155, ↓b_wj155, ↓b_l156, ↓b_j156, ↓b_wj156, ↓b_l138, ↓b_j138, ↓b_wj138, ↓b_a5, ↓b_a13, ↓b_a44, ↓b_lA, ↓b_aA_0, ↓b_aA_1, ↓b_iA_2, ↓b_wiA_2, ↓b_iA_4, ↓b_wiA_4, ↓b_iA_5, ↓b_wiA_5, ↓b_iA_6, ↓b_wiA_6, ↓b_jA_3, ↓b_wjA_3, ↓b_lT, ↓b_lTc, ↓b_aT, ↓b_iT, ↓b_wiT, ↓b_iTc, ↓b_wiTc, ↓b_lW, ↓b_lWc, ↓b_aW, ↓b_iW, ↓b_wiW, ↓b_jWc, ↓b_wjWc, ↓b_rt, ↓b_ru, ↓b_wt, ↓b_wu, ↓b_0l, ↓b_0, ↓b_1, ↓b_2, m_tk, ↓reduceIte, cond_true, cond_false, Option.bind_some, e60, ↓bI n1, i_11, i_01, i_1_0, i_0_1, not_true, not_false_eq_true, if_true, if_false, Bool.true_eq_false, Bool.false_eq_true, decide_true, decide_false]
  | m + 1, p, k, h1, h2, h3 => by
    have n1 := hcal p
    rw [show px (f (u + 1)) n p = f (u + 1) p from if_pos (by omega), if_pos (by omega)] at n1
    have ih := c_skipL hcal hq h59 m (p + 1) (k + 1) (by omega) (by omega) fun k a b => h3 k (by omega) b
    have h9 := h3 p (by omega) (by omega)
    rw [e_Reader_skipPast_2]
    simp (maxSteps := 4000000) (disch := first | omega | assumption) only [↓b_ix, ↓b_l3, ↓b_a3_0, ↓b_a3_1, ↓b_a3_2, ↓b_l4, ↓b_a4_0, ↓b_a4_1, ↓b_a4_2, ↓b_a4_3, ↓b_l129, ↓b_a129_0, ↓b_l130, ↓b_i130_1, ↓b_wi130_1, ↓b_l133, ↓b_a133_0, ↓b_a133_1, ↓b_i133_2, ↓b_wi133_2, ↓b_j133_3, ↓b_wj133_3, ↓b_i133_4, ↓b_wi133_4, ↓b_l134, ↓b_a134_0, ↓b_a134_1, ↓b_i134_2, ↓b_wi134_2, ↓b_i134_3, ↓b_wi134_3, ↓b_l135, ↓b_i135_1, ↓b_wi135_1, ↓b_l139, ↓b_a139_0, ↓b_a139_1, ↓b_a139_2, ↓b_a139_3, ↓b_a139_4, ↓b_a139_5, ↓b_a139_6, ↓b_a139_7, ↓b_a139_8, ↓b_a139_9, ↓b_a139_10, ↓b_a139_11, ↓b_a139_12, ↓b_a139_13, ↓b_a139_14, ↓b_i139_15, ↓b_wi139_15, ↓b_i139_16, ↓b_wi139_16, ↓b_i139_17, ↓b_wi139_17, ↓b_a139_18, ↓b_i139_19, ↓b_wi139_19, ↓b_i139_20, ↓b_wi139_20, ↓b_i139_21, ↓b_wi139_21, ↓b_l6, ↓b_i6, ↓b_wi6, ↓b_l140, ↓b_i140, ↓b_wi140, ↓b_l141, ↓b_i141, ↓b_wi141, ↓b_l142, ↓b_i142, ↓b_wi142, ↓b_l143, ↓b_i143, ↓b_wi143, ↓b_l144, ↓b_j144, ↓b_wj144, ↓b_l145, ↓b_j145, ↓b_wj145, ↓b_l146, ↓b_i146, ↓b_wi146, ↓b_l147, ↓b_i147, ↓b_wi147, ↓b_l148, ↓b_i148, ↓b_wi148, ↓b_l149, ↓b_i149, ↓b_wi149, ↓b_l150, ↓b_j150, ↓b_wj150, ↓b_l151, ↓b_i151, ↓b_wi151, ↓b_l152, ↓b_j152, ↓b_wj152, ↓b_l153, ↓b_i153, ↓b_wi153, ↓b_l154, ↓b_i154, ↓b_wi154, ↓b_l155, ↓b_j155, ↓b_wj155, ↓b_l156, ↓b_j156, ↓b_wj156, ↓b_l138, ↓b_j138, ↓b_wj138, ↓b_a5, ↓b_a13, ↓b_a44, ↓b_lA, ↓b_aA_0, ↓b_aA_1, ↓b_iA_2, ↓b_wiA_2, ↓b_iA_4, ↓b_wiA_4, ↓b_iA_5, ↓b_wiA_5, ↓b_iA_6, ↓b_wiA_6, ↓b_jA_3, ↓b_wjA_3, ↓b_lT, ↓b_lTc, ↓b_aT, ↓b_iT, ↓b_wiT, ↓b_iTc, ↓b_wiTc, ↓b_lW, ↓b_lWc, ↓b_aW, ↓b_iW, ↓b_wiW, ↓b_jWc, ↓b_wjWc, ↓b_rt, ↓b_ru, ↓b_wt, ↓b_wu, ↓b_0l, ↓b_0, ↓b_1, ↓b_2, m_tk, ↓reduceIte, cond_true, cond_false, Option.bind_some, e_Reader_skipPast_0, e_Reader_skipPast_17, e_Reader_skipPast_23, e60, ↓bI n1, h9, nI_1, ih, i_11, i_01, i_1_0, i_0_1, not_true, not_false_eq_true, if_true, if_false, Bool.true_eq_false, Bool.false_eq_true, decide_true, decide_false]
theorem c_skip {q p : Nat} (hd : 2 ≤ d) (hT : mX f u n) (hq : q < n) (hp : p ≤ q) (h59 : f (u + 1) q = 59) (h3 : ∀ k, p ≤ k → k < q → ¬ f (u + 1) k = 59) : am_Y d 29 [.ref 135, .int 59] (mM xs (m_u f 135 1 (nP p)) g t u c s) = some (.inl none, mM xs (m_u f 135 1 (nP (q + 1))) g t u c s) := by
  obtain ⟨d, rfl⟩ : ∃ e, d = e + 1 := ⟨d - 1, by omega⟩
  have hn := hT.2.2.2.1
  have := c_skipL (xs := xs) (g := g) (t := t) (c := c) (s := s) (cal := am_Y d) (fun i => c_next2 (i := i) (show 1 ≤ d by omega) hT) hq h59 (q - p) p 0 (by omega) (by omega) h3
  rw [y_Reader_skipPast, e_Reader_skipPast_0]
  exact this
end FN
