/-! PATTERNS: what they fit; the class tries them so -/
def lfT (x : sTm) : sTm := (sL x.1, x.2.take (sN (sL x.1)))
def rtT (x : sTm) : sTm := (sR x.1, x.2.drop (sN (sL x.1)))
def vset (va : Nat → sTm) (v : Nat) (x : sTm) : Nat → sTm := fun k => if k = v then x else va k
def pt (w : Nat → Int32) : Nat → Nat → sTm → (Nat → sTm) → Bool × Nat × (Nat → sTm)
  | 0, i, x, va => if w i = 95 then (true, i + 1, va) else if isV (w i) = true then (if (va (vN (w i))).1 < 9 then (decide (va (vN (w i)) = x), i + 1, va) else (true, i + 1, vset va (vN (w i)) x)) else (decide (evS w va 0 i = x), evE w i, va)
  | k + 1, i, x, va => if w i = 40 then (if x.1 = 0 then (false, i + 1, va) else
      if (pt w k (i + 1) (lfT x) va).1 = true then
        (if (pt w k ((pt w k (i + 1) (lfT x) va).2.1 + 1) (rtT x) (pt w k (i + 1) (lfT x) va).2.2).1 = true then
          (true, (pt w k ((pt w k (i + 1) (lfT x) va).2.1 + 1) (rtT x) (pt w k (i + 1) (lfT x) va).2.2).2.1 + 1, (pt w k ((pt w k (i + 1) (lfT x) va).2.1 + 1) (rtT x) (pt w k (i + 1) (lfT x) va).2.2).2.2)
         else pt w k ((pt w k (i + 1) (lfT x) va).2.1 + 1) (rtT x) (pt w k (i + 1) (lfT x) va).2.2)
      else pt w k (i + 1) (lfT x) va)
    else if w i = 95 then (true, i + 1, va) else if isV (w i) = true then (if (va (vN (w i))).1 < 9 then (decide (va (vN (w i)) = x), i + 1, va) else (true, i + 1, vset va (vN (w i)) x)) else (decide (evS w va 0 i = x), evE w i, va)
def y0 (w : Nat → Int32) (n i j : Nat) : Prop := i < n ∧ ¬ isO (w i) ∧ ¬ w i = 35 ∧ ((w i = 39 ∧ i + 2 < n ∧ isD (w (i + 1)) = true ∧ isD (w (i + 2)) = true ∧ j = i + 3) ∨ (¬ w i = 39 ∧ (isD (w i) = true ∨ isA (w i) = true ∨ isV (w i) = true ∨ w i = 95) ∧ j = i + 1))
def yp (w : Nat → Int32) (n : Nat) : Nat → Nat → Nat → Prop
  | 0, i, j => y0 w n i j
  | k + 1, i, j => (i < n ∧ w i = 40 ∧ ∃ j1 j2, yp w n k (i + 1) j1 ∧ j1 < n ∧ w j1 = 44 ∧ yp w n k (j1 + 1) j2 ∧ j2 < n ∧ w j2 = 41 ∧ j = j2 + 1) ∨ y0 w n i j
theorem tv_lf {x : sTm} (h : tv x.1 x.2) (h0 : ¬ x.1 = 0) : tv (lfT x).1 (lfT x).2 := tv_left h h0
theorem tv_rt {x : sTm} (h : tv x.1 x.2) (h0 : ¬ x.1 = 0) : tv (rtT x).1 (rtT x).2 := tv_right h h0
section FI
variable {w : Nat → Int32} {n : Nat}
theorem y0_n {i j : Nat} (h : y0 w n i j) : j ≤ n ∧ i < j := by
  obtain ⟨h1, _, _, ⟨_, h2, _, _, h3⟩ | ⟨_, _, h3⟩⟩ := h <;> omega
theorem yp_n : ∀ k {i j : Nat}, yp w n k i j → j ≤ n ∧ i < j
  | 0, _, _, h => y0_n h
  | k + 1, i, j, h => by
    rcases h with ⟨h1, _, j1, j2, a1, a2, a3, a4, a5, a6, rfl⟩ | h
    · have := yp_n k a1; have := yp_n k a4; omega
    · exact y0_n h
def pt0 (w : Nat → Int32) (i : Nat) (x : sTm) (va : Nat → sTm) : Bool × Nat × (Nat → sTm) := if w i = 95 then (true, i + 1, va) else if isV (w i) = true then (if (va (vN (w i))).1 < 9 then (decide (va (vN (w i)) = x), i + 1, va) else (true, i + 1, vset va (vN (w i)) x)) else (decide (evS w va 0 i = x), evE w i, va)
theorem pt_s {k i : Nat} {x : sTm} {va : Nat → sTm} (h : ¬ w i = 40) : pt w k i x va = pt0 w i x va := by
  cases k with
  | zero => rfl
  | succ k => rw [pt, if_neg h]; rfl
theorem pt_f {k i : Nat} {x : sTm} {va : Nat → sTm} (h : w i = 40) (hx : x.1 = 0) : pt w (k + 1) i x va = (false, i + 1, va) := by rw [pt, if_pos h, if_pos hx]
theorem pt_1 {k i : Nat} {x : sTm} {va : Nat → sTm} (h : w i = 40) (hx : ¬ x.1 = 0) (h1 : (pt w k (i + 1) (lfT x) va).1 = false) : pt w (k + 1) i x va = pt w k (i + 1) (lfT x) va := by rw [pt, if_pos h, if_neg hx, if_neg (by rw [h1]; decide)]
theorem pt_2 {k i : Nat} {x : sTm} {va : Nat → sTm} (h : w i = 40) (hx : ¬ x.1 = 0) (h1 : (pt w k (i + 1) (lfT x) va).1 = true) (h2 : (pt w k ((pt w k (i + 1) (lfT x) va).2.1 + 1) (rtT x) (pt w k (i + 1) (lfT x) va).2.2).1 = false) : pt w (k + 1) i x va = pt w k ((pt w k (i + 1) (lfT x) va).2.1 + 1) (rtT x) (pt w k (i + 1) (lfT x) va).2.2 := by rw [pt, if_pos h, if_neg hx, if_pos h1, if_neg (by rw [h2]; decide)]
theorem pt_3 {k i : Nat} {x : sTm} {va : Nat → sTm} (h : w i = 40) (hx : ¬ x.1 = 0) (h1 : (pt w k (i + 1) (lfT x) va).1 = true) (h2 : (pt w k ((pt w k (i + 1) (lfT x) va).2.1 + 1) (rtT x) (pt w k (i + 1) (lfT x) va).2.2).1 = true) : pt w (k + 1) i x va = (true, (pt w k ((pt w k (i + 1) (lfT x) va).2.1 + 1) (rtT x) (pt w k (i + 1) (lfT x) va).2.2).2.1 + 1, (pt w k ((pt w k (i + 1) (lfT x) va).2.1 + 1) (rtT x) (pt w k (i + 1) (lfT x) va).2.2).2.2) := by rw [pt, if_pos h, if_neg hx, if_pos h1, if_pos h2]
theorem vset_V {va : Nat → sTm} {v : Nat} {x : sTm} (hv : ∀ k, k < 6 → vV (va k)) (hx : tv x.1 x.2) : ∀ k, k < 6 → vV (vset va v x k) := by
  intro k hk
  unfold vset; split
  · exact .inl hx
  · exact hv k hk
theorem y0_x {i j : Nat} (h : y0 w n i j) (h9 : ¬ w i = 95) : x0 w n i j := by
  obtain ⟨h1, h2, h3, h | ⟨ha, hb, hc⟩⟩ := h
  · exact ⟨h1, h2, .inl h⟩
  · exact ⟨h1, h2, .inr ⟨ha, by rcases hb with h | h | h | h <;> first | exact .inl h | exact .inr (.inl h) | exact .inr (.inr (.inl h)) | exact absurd h h9, hc⟩⟩
theorem y0_39 {i j : Nat} (h : y0 w n i j) (h9 : w i = 95 ∨ isV (w i) = true) : j = i + 1 := by
  obtain ⟨h1, h2, h3, ⟨ha, _⟩ | ⟨ha, hb, hc⟩⟩ := h
  · rw [ha] at h9; rcases h9 with h | h <;> exact absurd h (by decide)
  · exact hc
theorem pt0_all {i j : Nat} {x : sTm} {va : Nat → sTm} (hx : tv x.1 x.2) (hv : ∀ k, k < 6 → vV (va k)) (h : y0 w n i j) : (pt0 w i x va).2.1 = j ∧ ∀ k, k < 6 → vV ((pt0 w i x va).2.2 k) := by
  unfold pt0
  by_cases a1 : w i = 95
  · rw [if_pos a1]; exact ⟨(y0_39 h (.inl a1)).symm, hv⟩
  · rw [if_neg a1]
    by_cases a2 : isV (w i) = true
    · rw [if_pos a2]
      split
      · exact ⟨(y0_39 h (.inr a2)).symm, hv⟩
      · exact ⟨(y0_39 h (.inr a2)).symm, vset_V hv hx⟩
    · rw [if_neg a2]; exact ⟨evE_s (y0_x h a1), hv⟩
theorem pt_all : ∀ k {i j : Nat} {x : sTm} {va : Nat → sTm}, tv x.1 x.2 → (∀ k, k < 6 → vV (va k)) → yp w n k i j → i ≤ (pt w k i x va).2.1 ∧ (pt w k i x va).2.1 ≤ j ∧ ((pt w k i x va).1 = true → (pt w k i x va).2.1 = j) ∧ ∀ v, v < 6 → vV ((pt w k i x va).2.2 v)
  | 0, i, j, x, va, hx, hv, h => by
    have := pt0_all hx hv h
    have hn := y0_n h
    exact ⟨by show i ≤ (pt0 w i x va).2.1; omega, by show (pt0 w i x va).2.1 ≤ j; omega, fun _ => this.1, this.2⟩
  | k + 1, i, j, x, va, hx, hv, h => by
    rcases h with ⟨h1, h40, j1, j2, a1, a2, a3, a4, a5, a6, rfl⟩ | h
    · have n1 := yp_n k a1; have n2 := yp_n k a4
      by_cases hp : x.1 = 0
      · rw [pt_f h40 hp]; exact ⟨by simp only; omega, by simp only; omega, (fun hh => (nomatch (hh : false = true))), hv⟩
      · obtain ⟨l1, l2, l3, l4⟩ := pt_all k (tv_lf hx hp) hv a1
        change i + 1 ≤ (pt w k (i + 1) (lfT x) va).2.1 at l1
        by_cases b1 : (pt w k (i + 1) (lfT x) va).1 = true
        · have e1 := l3 b1
          obtain ⟨r1, r2, r3, r4⟩ := pt_all k (tv_rt hx hp) l4 a4
          have e1' : (pt w k (i + 1) (lfT x) va).2.1 = j1 := e1
          by_cases b2 : (pt w k ((pt w k (i + 1) (lfT x) va).2.1 + 1) (rtT x) (pt w k (i + 1) (lfT x) va).2.2).1 = true
          · rw [pt_3 h40 hp b1 b2]
            rw [e1'] at b2 ⊢
            have e2 := r3 b2
            have e2' : (pt w k (j1 + 1) (rtT x) (pt w k (i + 1) (lfT x) va).2.2).2.1 = j2 := e2
            exact ⟨by simp only; omega, by simp only; omega, fun _ => by simp only; omega, r4⟩
          · have b2' : (pt w k ((pt w k (i + 1) (lfT x) va).2.1 + 1) (rtT x) (pt w k (i + 1) (lfT x) va).2.2).1 = false := by simpa using b2
            rw [pt_2 h40 hp b1 b2']
            rw [e1'] at b2 ⊢
            exact ⟨Nat.le_trans (by omega) r1, Nat.le_trans r2 (by omega), fun hh => absurd hh b2, r4⟩
        · have b1' : (pt w k (i + 1) (lfT x) va).1 = false := by simpa using b1
          rw [pt_1 h40 hp b1']
          exact ⟨by omega, Nat.le_trans l2 (by omega), fun hh => absurd hh b1, l4⟩
    · have h40 : ¬ w i = 40 := fun e => h.2.1 (.inl e)
      rw [pt_s h40]
      have := pt0_all hx hv h
      have hn := y0_n h
      exact ⟨by omega, by omega, fun _ => this.1, this.2⟩
end FI
section CG
variable {xs : List Int32} {f : mF} {g : mG} {t u c s n d : Nat}
def gva (g : mG) (va : Nat → sTm) : mG := fun x j => if x = 138 ∧ j < 6 then cTh (va j) else g x j
theorem gva_r {va : Nat → sTm} {k : Nat} (h : k < 6) : gva g va 138 k = cTh (va k) := if_pos ⟨rfl, h⟩
theorem gva_n {va : Nat → sTm} {x k : Nat} (h : x ≠ 138) : gva g va x k = g x k := if_neg (by omega)
theorem gva_w {va : Nat → sTm} {v : Nat} {x : sTm} (h : v < 6) : m_w (gva g va) 138 v (cTh x) = gva g (vset va v x) := by
  funext b j
  simp only [m_w, gva, vset]
  by_cases h1 : b = 138 ∧ j = v
  · rw [if_pos h1, if_pos (by omega), if_pos h1.2]
  · rw [if_neg h1]
    by_cases h2 : b = 138 ∧ j < 6
    · rw [if_pos h2, if_pos h2, if_neg (by omega)]
    · rw [if_neg h2, if_neg h2]
theorem cTh_eq {x y : sTm} (hx : tv x.1 x.2) (hy : tv y.1 y.2) : (lg_cmp (cTh x) (cTh y) = 0) = (x = y) := by
  have h1 := tC_lt hx; have h2 := tC_lt hy
  rw [cTh_t hx, cTh_t hy, lN_cmp0 (by omega) (by omega)]
  exact propext ⟨fun e => by have := tC_inj hx hy e; exact Prod.ext this.1 this.2, fun e => by rw [e]⟩
theorem evS_c {w : Nat → Int32} {va vb : Nat → sTm} {i p q : Nat} (h35 : ¬ w i = 35) (hV : ¬ isV (w i) = true) (hh : isD (w i) = true ∨ isA (w i) = true ∨ w i = 39) : evS w va p i = evS w vb q i := by
  unfold evS
  by_cases h1 : w i = 39
  · rw [if_pos h1, if_pos h1]
  · rw [if_neg h1, if_neg h1]
    by_cases h2 : isD (w i) = true
    · rw [if_pos h2, if_pos h2]
    · rw [if_neg h2, if_neg h2]
      by_cases h3 : isA (w i) = true
      · rw [if_pos h3, if_pos h3]
      · exact absurd hh (by simp [h1, h2, h3])
theorem c_fit0 {i j o : Nat} {x : sTm} {va : Nat → sTm} (hd : 3 ≤ d) (hT : mX f u n) (hx : tv x.1 x.2) (hV : ∀ k, k < 6 → vV (va k)) (h : y0 (f (u + 1)) n i j) : am_Y d 5 [.ref 134, .long (cTh x), .int (nI o)] (mM xs (m_u f 135 1 (nP i)) (gva g va) t u c s) = some (.inl (some (.int (m_b (pt0 (f (u + 1)) i x va).1))), mM xs (m_u f 135 1 (nP (pt0 (f (u + 1)) i x va).2.1)) (gva g (pt0 (f (u + 1)) i x va).2.2) t u c s) := by
  obtain ⟨d, rfl⟩ : ∃ e, d = e + 1 := ⟨d - 1, by omega⟩
  have h1 : 1 ≤ d := by omega
  have h2 : 2 ≤ d := by omega
  have n1 := c_next2 (xs := xs) (g := gva g va) (t := t) (c := c) (s := s) (i := i) h1 hT
  rw [show px (f (u + 1)) n i = f (u + 1) i from if_pos h.1, if_pos h.1] at n1
  have o40 : ¬ f (u + 1) i = 40 := fun e => h.2.1 (.inl e)
  unfold pt0
  by_cases a1 : f (u + 1) i = 95
  · rw [if_pos a1]
    simp (maxSteps := 4000000) (disch := first | omega | assumption) only [↓b_ix, ↓b_l3, ↓b_a3_0, ↓b_a3_1, ↓b_a3_2, ↓b_l4, ↓b_a4_0, ↓b_a4_1, ↓b_a4_2, ↓b_a4_3, ↓b_l129, ↓b_a129_0, ↓b_l130, ↓b_i130_1, ↓b_wi130_1, ↓b_l133, ↓b_a133_0, ↓b_a133_1, ↓b_i133_2, ↓b_wi133_2, ↓b_j133_3, ↓b_wj133_3, ↓b_i133_4, ↓b_wi133_4, ↓b_l134, ↓b_a134_0, ↓b_a134_1, ↓b_i134_2, ↓b_wi134_2, ↓b_i134_3, ↓b_wi134_3, ↓b_l135, ↓b_i135_1, ↓b_wi135_1, ↓b_l139, ↓b_a139_0, ↓b_a139_1, ↓b_a139_2, ↓b_a139_3, ↓b_a139_4, ↓b_a139_5, ↓b_a139_6, ↓b_a139_7, ↓b_a139_8, ↓b_a139_9, ↓b_a139_10, ↓b_a139_11, ↓b_a139_12, ↓b_a139_13, ↓b_a139_14, ↓b_i139_15, ↓b_wi139_15, ↓b_i139_16, ↓b_wi139_16, ↓b_i139_17, ↓b_wi139_17, ↓b_a139_18, ↓b_i139_19, ↓b_wi139_19, ↓b_i139_20, ↓b_wi139_20, ↓b_i139_21, ↓b_wi139_21, ↓b_l6, ↓b_i6, ↓b_wi6, ↓b_l140, ↓b_i140, ↓b_wi140, ↓b_l141, ↓b_i141, ↓b_wi141, ↓b_l142, ↓b_i142, ↓b_wi142, ↓b_l143, ↓b_i143, ↓b_wi143, ↓b_l144, ↓b_j144, ↓b_wj144, ↓b_l145, ↓b_j145, ↓b_wj145, ↓b_l146, ↓b_i146, ↓b_wi146, ↓b_l147, ↓b_i147, ↓b_wi147, ↓b_l148, ↓b_i148, ↓b_wi148, ↓b_l149, ↓b_i149, ↓b_wi149, ↓b_l150, ↓b_j150, ↓b_wj150, ↓b_l151, ↓b_i151, ↓b_wi151, ↓b_l152, ↓b_j152, ↓b_wj152, ↓b_l153, ↓b_i153, ↓b_wi153, ↓b_l154, ↓b_i154, ↓b_wi154, ↓b_l155, ↓b_j155, ↓b_wj155, ↓b_l156, ↓b_j156, ↓b_wj156, ↓b_l138, ↓b_j138, ↓b_wj138, ↓b_a5, ↓b_a13, ↓b_a44, ↓b_lA, ↓b_aA_0, ↓b_aA_1, ↓b_iA_2, ↓b_wiA_2, ↓b_iA_4, ↓b_wiA_4, ↓b_iA_5, ↓b_wiA_5, ↓b_iA_6, ↓b_wiA_6, ↓b_jA_3, ↓b_wjA_3, ↓b_lT, ↓b_lTc, ↓b_aT, ↓b_iT, ↓b_wiT, ↓b_iTc, ↓b_wiTc, ↓b_lW, ↓b_lWc, ↓b_aW, ↓b_iW, ↓b_wiW, ↓b_jWc, ↓b_wjWc, ↓b_rt, ↓b_ru, ↓b_wt, ↓b_wu, ↓b_0l, ↓b_0, ↓b_1, ↓b_2, m_tk, ↓reduceIte, cond_true, cond_false, Option.bind_some, y_Evaluator_fits, e_Evaluator_fits_0, e_Evaluator_fits_18, e_Evaluator_fits_93, e_Evaluator_fits_94, e_Evaluator_fits_95, e_Evaluator_fits_122, e_Evaluator_fits_123, e_Evaluator_fits_124, e_Evaluator_fits_144, e_Evaluator_fits_160, e_Evaluator_fits_161, ↓bI n1, a1, i_11, i_01, i_1_0, i_0_1, not_true, not_false_eq_true, if_true, if_false, Bool.true_eq_false, Bool.false_eq_true, decide_true, decide_false]
    rfl
  · rw [if_neg a1]
    by_cases a2 : isV (f (u + 1) i) = true
    · rw [if_pos a2]
      obtain ⟨v1, v2⟩ := vN_s a2
      have nn : 0 ≤ nI (vN (f (u + 1) i)) := nI_pos' (by omega)
      have c0 := cTh_V (hV _ v2)
      by_cases a3 : (va (vN (f (u + 1) i))).1 < 9
      · rw [if_pos a3]
        have hva : tv (va (vN (f (u + 1) i))).1 (va (vN (f (u + 1) i))).2 := by
          rcases hV _ v2 with hh | hh
          · exact hh
          · rw [hh] at a3; exact absurd a3 (by decide)
        have ce := cTh_eq hva hx
        by_cases a4 : va (vN (f (u + 1) i)) = x
        · simp (maxSteps := 4000000) (disch := first | omega | assumption) only [↓b_ix, ↓b_l3, ↓b_a3_0, ↓b_a3_1, ↓b_a3_2, ↓b_l4, ↓b_a4_0, ↓b_a4_1, ↓b_a4_2, ↓b_a4_3, ↓b_l129, ↓b_a129_0, ↓b_l130, ↓b_i130_1, ↓b_wi130_1, ↓b_l133, ↓b_a133_0, ↓b_a133_1, ↓b_i133_2, ↓b_wi133_2, ↓b_j133_3, ↓b_wj133_3, ↓b_i133_4, ↓b_wi133_4, ↓b_l134, ↓b_a134_0, ↓b_a134_1, ↓b_i134_2, ↓b_wi134_2, ↓b_i134_3, ↓b_wi134_3, ↓b_l135, ↓b_i135_1, ↓b_wi135_1, ↓b_l139, ↓b_a139_0, ↓b_a139_1, ↓b_a139_2, ↓b_a139_3, ↓b_a139_4, ↓b_a139_5, ↓b_a139_6, ↓b_a139_7, ↓b_a139_8, ↓b_a139_9, ↓b_a139_10, ↓b_a139_11, ↓b_a139_12, ↓b_a139_13, ↓b_a139_14, ↓b_i139_15, ↓b_wi139_15, ↓b_i139_16, ↓b_wi139_16, ↓b_i139_17, ↓b_wi139_17, ↓b_a139_18, ↓b_i139_19, ↓b_wi139_19, ↓b_i139_20, ↓b_wi139_20, ↓b_i139_21, ↓b_wi139_21, ↓b_l6, ↓b_i6, ↓b_wi6, ↓b_l140, ↓b_i140, ↓b_wi140, ↓b_l141, ↓b_i141, ↓b_wi141, ↓b_l142, ↓b_i142, ↓b_wi142, ↓b_l143, ↓b_i143, ↓b_wi143, ↓b_l144, ↓b_j144, ↓b_wj144, ↓b_l145, ↓b_j145, ↓b_wj145, ↓b_l146, ↓b_i146, ↓b_wi146, ↓b_l147, ↓b_i147, ↓b_wi147, ↓b_l148, ↓b_i148, ↓b_wi148, ↓b_l149, ↓b_i149, ↓b_wi149, ↓b_l150, ↓b_j150, ↓b_wj150, ↓b_l151, ↓b_i151, ↓b_wi151, ↓b_l152, ↓b_j152, ↓b_wj152, ↓b_l153, ↓b_i153, ↓b_wi153, ↓b_l154, ↓b_i154, ↓b_wi154, ↓b_l155, ↓b_j155, ↓b_wj155, ↓b_l156, ↓b_j156, ↓b_wj156, ↓b_l138, ↓b_j138, ↓b_wj138, ↓b_a5, ↓b_a13, ↓b_a44, ↓b_lA, ↓b_aA_0, ↓b_aA_1, ↓b_iA_2, ↓b_wiA_2, ↓b_iA_4, ↓b_wiA_4, ↓b_iA_5, ↓b_wiA_5, ↓b_iA_6, ↓b_wiA_6, ↓b_jA_3, ↓b_wjA_3, ↓b_lT, ↓b_lTc, ↓b_aT, ↓b_iT, ↓b_wiT, ↓b_iTc, ↓b_wiTc, ↓b_lW, ↓b_lWc, ↓b_aW, ↓b_iW, ↓b_wiW, ↓b_jWc, ↓b_wjWc, ↓b_rt, ↓b_ru, ↓b_wt, ↓b_wu, ↓b_0l, ↓b_0, ↓b_1, ↓b_2, m_tk, ↓reduceIte, cond_true, cond_false, Option.bind_some, y_Evaluator_fits, e_Evaluator_fits_0, e_Evaluator_fits_18, e_Evaluator_fits_93, e_Evaluator_fits_94, e_Evaluator_fits_95, e_Evaluator_fits_122, e_Evaluator_fits_123, e_Evaluator_fits_124, e_Evaluator_fits_144, e_Evaluator_fits_160, e_Evaluator_fits_161, ↓bI n1, a1, o40, ↓bI (c_cvar h1), v1, nn, gva_r, c0, ce, a3, a4, ft3_1, cTh_0 (.inl hx), cTh_eq hx hx, hx.1, i_11, i_01, i_1_0, i_0_1, not_true, not_false_eq_true, if_true, if_false, Bool.true_eq_false, Bool.false_eq_true, decide_true, decide_false]
          rfl
        · simp (maxSteps := 4000000) (disch := first | omega | assumption) only [↓b_ix, ↓b_l3, ↓b_a3_0, ↓b_a3_1, ↓b_a3_2, ↓b_l4, ↓b_a4_0, ↓b_a4_1, ↓b_a4_2, ↓b_a4_3, ↓b_l129, ↓b_a129_0, ↓b_l130, ↓b_i130_1, ↓b_wi130_1, ↓b_l133, ↓b_a133_0, ↓b_a133_1, ↓b_i133_2, ↓b_wi133_2, ↓b_j133_3, ↓b_wj133_3, ↓b_i133_4, ↓b_wi133_4, ↓b_l134, ↓b_a134_0, ↓b_a134_1, ↓b_i134_2, ↓b_wi134_2, ↓b_i134_3, ↓b_wi134_3, ↓b_l135, ↓b_i135_1, ↓b_wi135_1, ↓b_l139, ↓b_a139_0, ↓b_a139_1, ↓b_a139_2, ↓b_a139_3, ↓b_a139_4, ↓b_a139_5, ↓b_a139_6, ↓b_a139_7, ↓b_a139_8, ↓b_a139_9, ↓b_a139_10, ↓b_a139_11, ↓b_a139_12, ↓b_a139_13, ↓b_a139_14, ↓b_i139_15, ↓b_wi139_15, ↓b_i139_16, ↓b_wi139_16, ↓b_i139_17, ↓b_wi139_17, ↓b_a139_18, ↓b_i139_19, ↓b_wi139_19, ↓b_i139_20, ↓b_wi139_20, ↓b_i139_21, ↓b_wi139_21, ↓b_l6, ↓b_i6, ↓b_wi6, ↓b_l140, ↓b_i140, ↓b_wi140, ↓b_l141, ↓b_i141, ↓b_wi141, ↓b_l142, ↓b_i142, ↓b_wi142, ↓b_l143, ↓b_i143, ↓b_wi143, ↓b_l144, ↓b_j144, ↓b_wj144, ↓b_l145, ↓b_j145, ↓b_wj145, ↓b_l146, ↓b_i146, ↓b_wi146, ↓b_l147, ↓b_i147, ↓b_wi147, ↓b_l148, ↓b_i148, ↓b_wi148, ↓b_l149, ↓b_i149, ↓b_wi149, ↓b_l150, ↓b_j150, ↓b_wj150, ↓b_l151, ↓b_i151, ↓b_wi151, ↓b_l152, ↓b_j152, ↓b_wj152, ↓b_l153, ↓b_i153, ↓b_wi153, ↓b_l154, ↓b_i154, ↓b_wi154, ↓b_l155, ↓b_j155, ↓b_wj155, ↓b_l156, ↓b_j156, ↓b_wj156, ↓b_l138, ↓b_j138, ↓b_wj138, ↓b_a5, ↓b_a13, ↓b_a44, ↓b_lA, ↓b_aA_0, ↓b_aA_1, ↓b_iA_2, ↓b_wiA_2, ↓b_iA_4, ↓b_wiA_4, ↓b_iA_5, ↓b_wiA_5, ↓b_iA_6, ↓b_wiA_6, ↓b_jA_3, ↓b_wjA_3, ↓b_lT, ↓b_lTc, ↓b_aT, ↓b_iT, ↓b_wiT, ↓b_iTc, ↓b_wiTc, ↓b_lW, ↓b_lWc, ↓b_aW, ↓b_iW, ↓b_wiW, ↓b_jWc, ↓b_wjWc, ↓b_rt, ↓b_ru, ↓b_wt, ↓b_wu, ↓b_0l, ↓b_0, ↓b_1, ↓b_2, m_tk, ↓reduceIte, cond_true, cond_false, Option.bind_some, y_Evaluator_fits, e_Evaluator_fits_0, e_Evaluator_fits_18, e_Evaluator_fits_93, e_Evaluator_fits_94, e_Evaluator_fits_95, e_Evaluator_fits_122, e_Evaluator_fits_123, e_Evaluator_fits_124, e_Evaluator_fits_144, e_Evaluator_fits_160, e_Evaluator_fits_161, ↓bI n1, a1, o40, ↓bI (c_cvar h1), v1, nn, gva_r, c0, ce, a3, a4, ft3_0, i_11, i_01, i_1_0, i_0_1, not_true, not_false_eq_true, if_true, if_false, Bool.true_eq_false, Bool.false_eq_true, decide_true, decide_false]
          rfl
      · rw [if_neg a3]
        simp (maxSteps := 4000000) (disch := first | omega | assumption) only [↓b_ix, ↓b_l3, ↓b_a3_0, ↓b_a3_1, ↓b_a3_2, ↓b_l4, ↓b_a4_0, ↓b_a4_1, ↓b_a4_2, ↓b_a4_3, ↓b_l129, ↓b_a129_0, ↓b_l130, ↓b_i130_1, ↓b_wi130_1, ↓b_l133, ↓b_a133_0, ↓b_a133_1, ↓b_i133_2, ↓b_wi133_2, ↓b_j133_3, ↓b_wj133_3, ↓b_i133_4, ↓b_wi133_4, ↓b_l134, ↓b_a134_0, ↓b_a134_1, ↓b_i134_2, ↓b_wi134_2, ↓b_i134_3, ↓b_wi134_3, ↓b_l135, ↓b_i135_1, ↓b_wi135_1, ↓b_l139, ↓b_a139_0, ↓b_a139_1, ↓b_a139_2, ↓b_a139_3, ↓b_a139_4, ↓b_a139_5, ↓b_a139_6, ↓b_a139_7, ↓b_a139_8, ↓b_a139_9, ↓b_a139_10, ↓b_a139_11, ↓b_a139_12, ↓b_a139_13, ↓b_a139_14, ↓b_i139_15, ↓b_wi139_15, ↓b_i139_16, ↓b_wi139_16, ↓b_i139_17, ↓b_wi139_17, ↓b_a139_18, ↓b_i139_19, ↓b_wi139_19, ↓b_i139_20, ↓b_wi139_20, ↓b_i139_21, ↓b_wi139_21, ↓b_l6, ↓b_i6, ↓b_wi6, ↓b_l140, ↓b_i140, ↓b_wi140, ↓b_l141, ↓b_i141, ↓b_wi141, ↓b_l142, ↓b_i142, ↓b_wi142, ↓b_l143, ↓b_i143, ↓b_wi143, ↓b_l144, ↓b_j144, ↓b_wj144, ↓b_l145, ↓b_j145, ↓b_wj145, ↓b_l146, ↓b_i146, ↓b_wi146, ↓b_l147, ↓b_i147, ↓b_wi147, ↓b_l148, ↓b_i148, ↓b_wi148, ↓b_l149, ↓b_i149, ↓b_wi149, ↓b_l150, ↓b_j150, ↓b_wj150, ↓b_l151, ↓b_i151, ↓b_wi151, ↓b_l152, ↓b_j152, ↓b_wj152, ↓b_l153, ↓b_i153, ↓b_wi153, ↓b_l154, ↓b_i154, ↓b_wi154, ↓b_l155, ↓b_j155, ↓b_wj155, ↓b_l156, ↓b_j156, ↓b_wj156, ↓b_l138, ↓b_j138, ↓b_wj138, ↓b_a5, ↓b_a13, ↓b_a44, ↓b_lA, ↓b_aA_0, ↓b_aA_1, ↓b_iA_2, ↓b_wiA_2, ↓b_iA_4, ↓b_wiA_4, ↓b_iA_5, ↓b_wiA_5, ↓b_iA_6, ↓b_wiA_6, ↓b_jA_3, ↓b_wjA_3, ↓b_lT, ↓b_lTc, ↓b_aT, ↓b_iT, ↓b_wiT, ↓b_iTc, ↓b_wiTc, ↓b_lW, ↓b_lWc, ↓b_aW, ↓b_iW, ↓b_wiW, ↓b_jWc, ↓b_wjWc, ↓b_rt, ↓b_ru, ↓b_wt, ↓b_wu, ↓b_0l, ↓b_0, ↓b_1, ↓b_2, m_tk, ↓reduceIte, cond_true, cond_false, Option.bind_some, y_Evaluator_fits, e_Evaluator_fits_0, e_Evaluator_fits_18, e_Evaluator_fits_93, e_Evaluator_fits_94, e_Evaluator_fits_95, e_Evaluator_fits_122, e_Evaluator_fits_123, e_Evaluator_fits_124, e_Evaluator_fits_144, e_Evaluator_fits_160, e_Evaluator_fits_161, ↓bI n1, a1, o40, ↓bI (c_cvar h1), v1, nn, gva_r, c0, a3, gva_w, cTh_eq hx hx, vset, ft3_1, i_11, i_01, i_1_0, i_0_1, not_true, not_false_eq_true, if_true, if_false, Bool.true_eq_false, Bool.false_eq_true, decide_true, decide_false]
        rfl
    · rw [if_neg a2]
      have a2' : isV (f (u + 1) i) = false := by simpa using a2
      have nn : ¬ 0 ≤ vOf (f (u + 1) i) := by rw [vOf_nn]; exact a2
      have hx0 := y0_x h a1
      have hc := c_const (xs := xs) (g := gva g va) (t := t) (c := c) (s := s) (va := va) (self := 0) h2 hT hx0 a2' h.2.2.1
      have hvt : tv (evS (f (u + 1)) va 0 i).1 (evS (f (u + 1)) va 0 i).2 := by
        have := vT_S (self := 0) (va := va) (by decide) hV hx0
        refine vT_9 this ?_
        unfold evS
        rcases hx0.2.2 with ⟨b, _⟩ | ⟨b0, b, _⟩
        · rw [if_pos b]; exact (by decide : 0 < 9)
        · rw [if_neg b0]
          rcases b with b | b | b | b
          · rw [if_pos b]; exact (by decide : 0 < 9)
          · by_cases b2 : isD (f (u + 1) i) = true
            · rw [if_pos b2]; exact (by decide : 0 < 9)
            · rw [if_neg b2, if_pos b]; exact (by decide : 0 < 9)
          · exact absurd b a2
          · exact absurd b h.2.2.1
      have ce := cTh_eq hvt hx
      rw [evE_s hx0]
      by_cases a4 : evS (f (u + 1)) va 0 i = x
      · rw [a4] at hc
        simp (maxSteps := 4000000) (disch := first | omega | assumption) only [↓b_ix, ↓b_l3, ↓b_a3_0, ↓b_a3_1, ↓b_a3_2, ↓b_l4, ↓b_a4_0, ↓b_a4_1, ↓b_a4_2, ↓b_a4_3, ↓b_l129, ↓b_a129_0, ↓b_l130, ↓b_i130_1, ↓b_wi130_1, ↓b_l133, ↓b_a133_0, ↓b_a133_1, ↓b_i133_2, ↓b_wi133_2, ↓b_j133_3, ↓b_wj133_3, ↓b_i133_4, ↓b_wi133_4, ↓b_l134, ↓b_a134_0, ↓b_a134_1, ↓b_i134_2, ↓b_wi134_2, ↓b_i134_3, ↓b_wi134_3, ↓b_l135, ↓b_i135_1, ↓b_wi135_1, ↓b_l139, ↓b_a139_0, ↓b_a139_1, ↓b_a139_2, ↓b_a139_3, ↓b_a139_4, ↓b_a139_5, ↓b_a139_6, ↓b_a139_7, ↓b_a139_8, ↓b_a139_9, ↓b_a139_10, ↓b_a139_11, ↓b_a139_12, ↓b_a139_13, ↓b_a139_14, ↓b_i139_15, ↓b_wi139_15, ↓b_i139_16, ↓b_wi139_16, ↓b_i139_17, ↓b_wi139_17, ↓b_a139_18, ↓b_i139_19, ↓b_wi139_19, ↓b_i139_20, ↓b_wi139_20, ↓b_i139_21, ↓b_wi139_21, ↓b_l6, ↓b_i6, ↓b_wi6, ↓b_l140, ↓b_i140, ↓b_wi140, ↓b_l141, ↓b_i141, ↓b_wi141, ↓b_l142, ↓b_i142, ↓b_wi142, ↓b_l143, ↓b_i143, ↓b_wi143, ↓b_l144, ↓b_j144, ↓b_wj144, ↓b_l145, ↓b_j145, ↓b_wj145, ↓b_l146, ↓b_i146, ↓b_wi146, ↓b_l147, ↓b_i147, ↓b_wi147, ↓b_l148, ↓b_i148, ↓b_wi148, ↓b_l149, ↓b_i149, ↓b_wi149, ↓b_l150, ↓b_j150, ↓b_wj150, ↓b_l151, ↓b_i151, ↓b_wi151, ↓b_l152, ↓b_j152, ↓b_wj152, ↓b_l153, ↓b_i153, ↓b_wi153, ↓b_l154, ↓b_i154, ↓b_wi154, ↓b_l155, ↓b_j155, ↓b_wj155, ↓b_l156, ↓b_j156, ↓b_wj156, ↓b_l138, ↓b_j138, ↓b_wj138, ↓b_a5, ↓b_a13, ↓b_a44, ↓b_lA, ↓b_aA_0, ↓b_aA_1, ↓b_iA_2, ↓b_wiA_2, ↓b_iA_4, ↓b_wiA_4, ↓b_iA_5, ↓b_wiA_5, ↓b_iA_6, ↓b_wiA_6, ↓b_jA_3, ↓b_wjA_3, ↓b_lT, ↓b_lTc, ↓b_aT, ↓b_iT, ↓b_wiT, ↓b_iTc, ↓b_wiTc, ↓b_lW, ↓b_lWc, ↓b_aW, ↓b_iW, ↓b_wiW, ↓b_jWc, ↓b_wjWc, ↓b_rt, ↓b_ru, ↓b_wt, ↓b_wu, ↓b_0l, ↓b_0, ↓b_1, ↓b_2, m_tk, ↓reduceIte, cond_true, cond_false, Option.bind_some, y_Evaluator_fits, e_Evaluator_fits_0, e_Evaluator_fits_18, e_Evaluator_fits_93, e_Evaluator_fits_94, e_Evaluator_fits_95, e_Evaluator_fits_122, e_Evaluator_fits_123, e_Evaluator_fits_124, e_Evaluator_fits_144, e_Evaluator_fits_160, e_Evaluator_fits_161, ↓bI n1, a1, o40, ↓bI (c_cvar h1), nn, ↓bJ hc, cTh_eq hx hx, a4, ft3_1, i_11, i_01, i_1_0, i_0_1, not_true, not_false_eq_true, if_true, if_false, Bool.true_eq_false, Bool.false_eq_true, decide_true, decide_false]
        rfl
      · simp (maxSteps := 4000000) (disch := first | omega | assumption) only [↓b_ix, ↓b_l3, ↓b_a3_0, ↓b_a3_1, ↓b_a3_2, ↓b_l4, ↓b_a4_0, ↓b_a4_1, ↓b_a4_2, ↓b_a4_3, ↓b_l129, ↓b_a129_0, ↓b_l130, ↓b_i130_1, ↓b_wi130_1, ↓b_l133, ↓b_a133_0, ↓b_a133_1, ↓b_i133_2, ↓b_wi133_2, ↓b_j133_3, ↓b_wj133_3, ↓b_i133_4, ↓b_wi133_4, ↓b_l134, ↓b_a134_0, ↓b_a134_1, ↓b_i134_2, ↓b_wi134_2, ↓b_i134_3, ↓b_wi134_3, ↓b_l135, ↓b_i135_1, ↓b_wi135_1, ↓b_l139, ↓b_a139_0, ↓b_a139_1, ↓b_a139_2, ↓b_a139_3, ↓b_a139_4, ↓b_a139_5, ↓b_a139_6, ↓b_a139_7, ↓b_a139_8, ↓b_a139_9, ↓b_a139_10, ↓b_a139_11, ↓b_a139_12, ↓b_a139_13, ↓b_a139_14, ↓b_i139_15, ↓b_wi139_15, ↓b_i139_16, ↓b_wi139_16, ↓b_i139_17, ↓b_wi139_17, ↓b_a139_18, ↓b_i139_19, ↓b_wi139_19, ↓b_i139_20, ↓b_wi139_20, ↓b_i139_21, ↓b_wi139_21, ↓b_l6, ↓b_i6, ↓b_wi6, ↓b_l140, ↓b_i140, ↓b_wi140, ↓b_l141, ↓b_i141, ↓b_wi141, ↓b_l142, ↓b_i142, ↓b_wi142, ↓b_l143, ↓b_i143, ↓b_wi143, ↓b_l144, ↓b_j144, ↓b_wj144, ↓b_l145, ↓b_j145, ↓b_wj145, ↓b_l146, ↓b_i146, ↓b_wi146, ↓b_l147, ↓b_i147, ↓b_wi147, ↓b_l148, ↓b_i148, ↓b_wi148, ↓b_l149, ↓b_i149, ↓b_wi149, ↓b_l150, ↓b_j150, ↓b_wj150, ↓b_l151, ↓b_i151, ↓b_wi151, ↓b_l152, ↓b_j152, ↓b_wj152, ↓b_l153, ↓b_i153, ↓b_wi153, ↓b_l154, ↓b_i154, ↓b_wi154, ↓b_l155, ↓b_j155, ↓b_wj155, ↓b_l156, ↓b_j156, ↓b_wj156, ↓b_l138, ↓b_j138, ↓b_wj138, ↓b_a5, ↓b_a13, ↓b_a44, ↓b_lA, ↓b_aA_0, ↓b_aA_1, ↓b_iA_2, ↓b_wiA_2, ↓b_iA_4, ↓b_wiA_4, ↓b_iA_5, ↓b_wiA_5, ↓b_iA_6, ↓b_wiA_6, ↓b_jA_3, ↓b_wjA_3, ↓b_lT, ↓b_lTc, ↓b_aT, ↓b_iT, ↓b_wiT, ↓b_iTc, ↓b_wiTc, ↓b_lW, ↓b_lWc, ↓b_aW, ↓b_iW, ↓b_wiW, ↓b_jWc, ↓b_wjWc, ↓b_rt, ↓b_ru, ↓b_wt, ↓b_wu, ↓b_0l, ↓b_0, ↓b_1, ↓b_2, m_tk, ↓reduceIte, cond_true, cond_false, Option.bind_some, y_Evaluator_fits, e_Evaluator_fits_0, e_Evaluator_fits_18, e_Evaluator_fits_93, e_Evaluator_fits_94, e_Evaluator_fits_95, e_Evaluator_fits_122, e_Evaluator_fits_123, e_Evaluator_fits_124, e_Evaluator_fits_144, e_Evaluator_fits_160, e_Evaluator_fits_161, ↓bI n1, a1, o40, ↓bI (c_cvar h1), nn, ↓bJ hc, ce, a4, ft3_0, i_11, i_01, i_1_0, i_0_1, not_true, not_false_eq_true, if_true, if_false, Bool.true_eq_false, Bool.false_eq_true, decide_true, decide_false]
        rfl
theorem c_left2 {x : sTm} (hd : 3 ≤ d) (hx : tv x.1 x.2) (h0 : ¬ x.1 = 0) : am_Y d 51 [.long (cTh x)] (mM xs f g t u c s) = some (.inl (some (.long (cTh (lfT x)))), mM xs f g t u c s) := by
  rw [cTh_t hx, cTh_t (tv_lf hx h0)]; exact t_left hd hx h0
theorem c_right2 {x : sTm} (hd : 3 ≤ d) (hx : tv x.1 x.2) (h0 : ¬ x.1 = 0) : am_Y d 53 [.long (cTh x)] (mM xs f g t u c s) = some (.inl (some (.long (cTh (rtT x)))), mM xs f g t u c s) := by
  rw [cTh_t hx, cTh_t (tv_rt hx h0)]; exact t_right hd hx h0
theorem c_fits (hT : mX f u n) : ∀ k {o d i j : Nat} {x : sTm} {va : Nat → sTm}, o + k = 4 → k + 4 ≤ d → tv x.1 x.2 → (∀ k, k < 6 → vV (va k)) → yp (f (u + 1)) n k i j → am_Y d 5 [.ref 134, .long (cTh x), .int (nI o)] (mM xs (m_u f 135 1 (nP i)) (gva g va) t u c s) = some (.inl (some (.int (m_b (pt (f (u + 1)) k i x va).1))), mM xs (m_u f 135 1 (nP (pt (f (u + 1)) k i x va).2.1)) (gva g (pt (f (u + 1)) k i x va).2.2) t u c s)
  | 0, o, d, i, j, x, va, ho, hd, hx, hV, h => c_fit0 (by omega) hT hx hV h
  | k + 1, o, d, i, j, x, va, ho, hd, hx, hV, h => by
    rcases h with ⟨h1, h40, j1, j2, a1, a2, a3, a4, a5, a6, rfl⟩ | h
    · obtain ⟨d, rfl⟩ : ∃ e, d = e + 1 := ⟨d - 1, by omega⟩
      have d1 : 1 ≤ d := by omega
      have n1 := c_next2 (xs := xs) (g := gva g va) (t := t) (c := c) (s := s) (i := i) d1 hT
      rw [show px (f (u + 1)) n i = f (u + 1) i from if_pos h1, if_pos h1, h40] at n1
      have o4 : ¬ 4 ≤ nI o := by rw [l_4, nI_leI (by omega) (by omega)]; omega
      have ip := t_isPair (M := mM xs (m_u f 135 1 (nP (i + 1))) (gva g va) t u c s) d1 hx
      rw [← cTh_t hx] at ip
      by_cases hp : x.1 = 0
      · rw [pt_f h40 hp]
        simp (maxSteps := 4000000) (disch := first | omega | assumption) only [↓b_ix, ↓b_l3, ↓b_a3_0, ↓b_a3_1, ↓b_a3_2, ↓b_l4, ↓b_a4_0, ↓b_a4_1, ↓b_a4_2, ↓b_a4_3, ↓b_l129, ↓b_a129_0, ↓b_l130, ↓b_i130_1, ↓b_wi130_1, ↓b_l133, ↓b_a133_0, ↓b_a133_1, ↓b_i133_2, ↓b_wi133_2, ↓b_j133_3, ↓b_wj133_3, ↓b_i133_4, ↓b_wi133_4, ↓b_l134, ↓b_a134_0, ↓b_a134_1, ↓b_i134_2, ↓b_wi134_2, ↓b_i134_3, ↓b_wi134_3, ↓b_l135, ↓b_i135_1, ↓b_wi135_1, ↓b_l139, ↓b_a139_0, ↓b_a139_1, ↓b_a139_2, ↓b_a139_3, ↓b_a139_4, ↓b_a139_5, ↓b_a139_6, ↓b_a139_7, ↓b_a139_8, ↓b_a139_9, ↓b_a139_10, ↓b_a139_11, ↓b_a139_12, ↓b_a139_13, ↓b_a139_14, ↓b_i139_15, ↓b_wi139_15, ↓b_i139_16, ↓b_wi139_16, ↓b_i139_17, ↓b_wi139_17, ↓b_a139_18, ↓b_i139_19, ↓b_wi139_19, ↓b_i139_20, ↓b_wi139_20, ↓b_i139_21, ↓b_wi139_21, ↓b_l6, ↓b_i6, ↓b_wi6, ↓b_l140, ↓b_i140, ↓b_wi140, ↓b_l141, ↓b_i141, ↓b_wi141, ↓b_l142, ↓b_i142, ↓b_wi142, ↓b_l143, ↓b_i143, ↓b_wi143, ↓b_l144, ↓b_j144, ↓b_wj144, ↓b_l145, ↓b_j145, ↓b_wj145, ↓b_l146, ↓b_i146, ↓b_wi146, ↓b_l147, ↓b_i147, ↓b_wi147, ↓b_l148, ↓b_i148, ↓b_wi148, ↓b_l149, ↓b_i149, ↓b_wi149, ↓b_l150, ↓b_j150, ↓b_wj150, ↓b_l151, ↓b_i151, ↓b_wi151, ↓b_l152, ↓b_j152, ↓b_wj152, ↓b_l153, ↓b_i153, ↓b_wi153, ↓b_l154, ↓b_i154, ↓b_wi154, ↓b_l155, ↓b_j155, ↓b_wj155, ↓b_l156, ↓b_j156, ↓b_wj156, ↓b_l138, ↓b_j138, ↓b_wj138, ↓b_a5, ↓b_a13, ↓b_a44, ↓b_lA, ↓b_aA_0, ↓b_aA_1, ↓b_iA_2, ↓b_wiA_2, ↓b_iA_4, ↓b_wiA_4, ↓b_iA_5, ↓b_wiA_5, ↓b_iA_6, ↓b_wiA_6, ↓b_jA_3, ↓b_wjA_3, ↓b_lT, ↓b_lTc, ↓b_aT, ↓b_iT, ↓b_wiT, ↓b_iTc, ↓b_wiTc, ↓b_lW, ↓b_lWc, ↓b_aW, ↓b_iW, ↓b_wiW, ↓b_jWc, ↓b_wjWc, ↓b_rt, ↓b_ru, ↓b_wt, ↓b_wu, ↓b_0l, ↓b_0, ↓b_1, ↓b_2, m_tk, ↓reduceIte, cond_true, cond_false, Option.bind_some, y_Evaluator_fits, e_Evaluator_fits_0, e_Evaluator_fits_18, e_Evaluator_fits_93, e_Evaluator_fits_94, e_Evaluator_fits_95, e_Evaluator_fits_122, e_Evaluator_fits_123, e_Evaluator_fits_124, e_Evaluator_fits_144, e_Evaluator_fits_160, e_Evaluator_fits_161, ↓bI n1, show ¬ (40 : Int32) = 95 by decide, o4, ↓bI ip, hp, m_b0, ft3_0, i_11, i_01, i_1_0, i_0_1, not_true, not_false_eq_true, if_true, if_false, Bool.true_eq_false, Bool.false_eq_true, decide_true, decide_false]
        rfl
      · obtain ⟨l1, l2, l3, l4⟩ := pt_all k (tv_lf hx hp) hV a1
        have tl := c_left2 (xs := xs) (f := m_u f 135 1 (nP (i + 1))) (g := gva g va) (t := t) (u := u) (c := c) (s := s) (show 3 ≤ d by omega) hx hp
        have ih1 := c_fits hT k (o := o + 1) (d := d) (by omega) (by omega) (tv_lf hx hp) hV a1
        change am_Y d 5 [.ref 134, .long (cTh (lfT x)), .int (nI (o + 1))] _ = some (.inl (some (.int (m_b (pt (f (u + 1)) k (i + 1) (lfT x) va).1))), mM xs (m_u f 135 1 (nP (pt (f (u + 1)) k (i + 1) (lfT x) va).2.1)) (gva g (pt (f (u + 1)) k (i + 1) (lfT x) va).2.2) t u c s) at ih1
        by_cases b1 : (pt (f (u + 1)) k (i + 1) (lfT x) va).1 = true
        · have e1 : (pt (f (u + 1)) k (i + 1) (lfT x) va).2.1 = j1 := l3 b1
          rw [b1, e1] at ih1
          have ac := acc2 (xs := xs) (g := gva g (pt (f (u + 1)) k (i + 1) (lfT x) va).2.2) (t := t) (c := c) (s := s) (x := 44) d1 hT a2 a3
          have tr := c_right2 (xs := xs) (f := m_u f 135 1 (nP (j1 + 1))) (g := gva g (pt (f (u + 1)) k (i + 1) (lfT x) va).2.2) (t := t) (u := u) (c := c) (s := s) (show 3 ≤ d by omega) hx hp
          obtain ⟨r1, r2, r3, r4⟩ := pt_all k (tv_rt hx hp) l4 a4
          have ih2 := c_fits hT k (o := o + 1) (d := d) (by omega) (by omega) (tv_rt hx hp) l4 a4
          change am_Y d 5 [.ref 134, .long (cTh (rtT x)), .int (nI (o + 1))] (mM xs (m_u f 135 1 (nP (j1 + 1))) (gva g (pt (f (u + 1)) k (i + 1) (lfT x) va).2.2) t u c s) = some (.inl (some (.int (m_b (pt (f (u + 1)) k (j1 + 1) (rtT x) (pt (f (u + 1)) k (i + 1) (lfT x) va).2.2).1))), mM xs (m_u f 135 1 (nP (pt (f (u + 1)) k (j1 + 1) (rtT x) (pt (f (u + 1)) k (i + 1) (lfT x) va).2.2).2.1)) (gva g (pt (f (u + 1)) k (j1 + 1) (rtT x) (pt (f (u + 1)) k (i + 1) (lfT x) va).2.2).2.2) t u c s) at ih2
          by_cases b2 : (pt (f (u + 1)) k (j1 + 1) (rtT x) (pt (f (u + 1)) k (i + 1) (lfT x) va).2.2).1 = true
          · rw [pt_3 h40 hp b1 (by rw [e1]; exact b2), e1]
            have e2 : (pt (f (u + 1)) k (j1 + 1) (rtT x) (pt (f (u + 1)) k (i + 1) (lfT x) va).2.2).2.1 = j2 := r3 b2
            rw [b2, e2] at ih2
            rw [e2]
            have ac2 := acc2 (xs := xs) (g := gva g (pt (f (u + 1)) k (j1 + 1) (rtT x) (pt (f (u + 1)) k (i + 1) (lfT x) va).2.2).2.2) (t := t) (c := c) (s := s) (x := 41) d1 hT a5 a6
            simp (maxSteps := 4000000) (disch := first | omega | assumption) only [↓b_ix, ↓b_l3, ↓b_a3_0, ↓b_a3_1, ↓b_a3_2, ↓b_l4, ↓b_a4_0, ↓b_a4_1, ↓b_a4_2, ↓b_a4_3, ↓b_l129, ↓b_a129_0, ↓b_l130, ↓b_i130_1, ↓b_wi130_1, ↓b_l133, ↓b_a133_0, ↓b_a133_1, ↓b_i133_2, ↓b_wi133_2, ↓b_j133_3, ↓b_wj133_3, ↓b_i133_4, ↓b_wi133_4, ↓b_l134, ↓b_a134_0, ↓b_a134_1, ↓b_i134_2, ↓b_wi134_2, ↓b_i134_3, ↓b_wi134_3, ↓b_l135, ↓b_i135_1, ↓b_wi135_1, ↓b_l139, ↓b_a139_0, ↓b_a139_1, ↓b_a139_2, ↓b_a139_3, ↓b_a139_4, ↓b_a139_5, ↓b_a139_6, ↓b_a139_7, ↓b_a139_8, ↓b_a139_9, ↓b_a139_10, ↓b_a139_11, ↓b_a139_12, ↓b_a139_13, ↓b_a139_14, ↓b_i139_15, ↓b_wi139_15, ↓b_i139_16, ↓b_wi139_16, ↓b_i139_17, ↓b_wi139_17, ↓b_a139_18, ↓b_i139_19, ↓b_wi139_19, ↓b_i139_20, ↓b_wi139_20, ↓b_i139_21, ↓b_wi139_21, ↓b_l6, ↓b_i6, ↓b_wi6, ↓b_l140, ↓b_i140, ↓b_wi140, ↓b_l141, ↓b_i141, ↓b_wi141, ↓b_l142, ↓b_i142, ↓b_wi142, ↓b_l143, ↓b_i143, ↓b_wi143, ↓b_l144, ↓b_j144, ↓b_wj144, ↓b_l145, ↓b_j145, ↓b_wj145, ↓b_l146, ↓b_i146, ↓b_wi146, ↓b_l147, ↓b_i147, ↓b_wi147, ↓b_l148, ↓b_i148, ↓b_wi148, ↓b_l149, ↓b_i149, ↓b_wi149, ↓b_l150, ↓b_j150, ↓b_wj150, ↓b_l151, ↓b_i151, ↓b_wi151, ↓b_l152, ↓b_j152, ↓b_wj152, ↓b_l153, ↓b_i153, ↓b_wi153, ↓b_l154, ↓b_i154, ↓b_wi154, ↓b_l155, ↓b_j155, ↓b_wj155, ↓b_l156, ↓b_j156, ↓b_wj156, ↓b_l138, ↓b_j138, ↓b_wj138, ↓b_a5, ↓b_a13, ↓b_a44, ↓b_lA, ↓b_aA_0, ↓b_aA_1, ↓b_iA_2, ↓b_wiA_2, ↓b_iA_4, ↓b_wiA_4, ↓b_iA_5, ↓b_wiA_5, ↓b_iA_6, ↓b_wiA_6, ↓b_jA_3, ↓b_wjA_3, ↓b_lT, ↓b_lTc, ↓b_aT, ↓b_iT, ↓b_wiT, ↓b_iTc, ↓b_wiTc, ↓b_lW, ↓b_lWc, ↓b_aW, ↓b_iW, ↓b_wiW, ↓b_jWc, ↓b_wjWc, ↓b_rt, ↓b_ru, ↓b_wt, ↓b_wu, ↓b_0l, ↓b_0, ↓b_1, ↓b_2, m_tk, ↓reduceIte, cond_true, cond_false, Option.bind_some, y_Evaluator_fits, e_Evaluator_fits_0, e_Evaluator_fits_18, e_Evaluator_fits_93, e_Evaluator_fits_94, e_Evaluator_fits_95, e_Evaluator_fits_122, e_Evaluator_fits_123, e_Evaluator_fits_124, e_Evaluator_fits_144, e_Evaluator_fits_160, e_Evaluator_fits_161, ↓bI n1, show ¬ (40 : Int32) = 95 by decide, o4, ↓bI ip, hp, m_b0, nI_1, ↓bJ tl, ↓bI ih1, ↓bI ac, ↓bJ tr, ↓bI ih2, ↓bI ac2, ft3_1, i_11, i_01, i_1_0, i_0_1, not_true, not_false_eq_true, if_true, if_false, Bool.true_eq_false, Bool.false_eq_true, decide_true, decide_false]
            rfl
          · have b2' : (pt (f (u + 1)) k (j1 + 1) (rtT x) (pt (f (u + 1)) k (i + 1) (lfT x) va).2.2).1 = false := by simpa using b2
            rw [pt_2 h40 hp b1 (by rw [e1]; exact b2'), e1, b2']
            rw [b2'] at ih2
            simp (maxSteps := 4000000) (disch := first | omega | assumption) only [↓b_ix, ↓b_l3, ↓b_a3_0, ↓b_a3_1, ↓b_a3_2, ↓b_l4, ↓b_a4_0, ↓b_a4_1, ↓b_a4_2, ↓b_a4_3, ↓b_l129, ↓b_a129_0, ↓b_l130, ↓b_i130_1, ↓b_wi130_1, ↓b_l133, ↓b_a133_0, ↓b_a133_1, ↓b_i133_2, ↓b_wi133_2, ↓b_j133_3, ↓b_wj133_3, ↓b_i133_4, ↓b_wi133_4, ↓b_l134, ↓b_a134_0, ↓b_a134_1, ↓b_i134_2, ↓b_wi134_2, ↓b_i134_3, ↓b_wi134_3, ↓b_l135, ↓b_i135_1, ↓b_wi135_1, ↓b_l139, ↓b_a139_0, ↓b_a139_1, ↓b_a139_2, ↓b_a139_3, ↓b_a139_4, ↓b_a139_5, ↓b_a139_6, ↓b_a139_7, ↓b_a139_8, ↓b_a139_9, ↓b_a139_10, ↓b_a139_11, ↓b_a139_12, ↓b_a139_13, ↓b_a139_14, ↓b_i139_15, ↓b_wi139_15, ↓b_i139_16, ↓b_wi139_16, ↓b_i139_17, ↓b_wi139_17, ↓b_a139_18, ↓b_i139_19, ↓b_wi139_19, ↓b_i139_20, ↓b_wi139_20, ↓b_i139_21, ↓b_wi139_21, ↓b_l6, ↓b_i6, ↓b_wi6, ↓b_l140, ↓b_i140, ↓b_wi140, ↓b_l141, ↓b_i141, ↓b_wi141, ↓b_l142, ↓b_i142, ↓b_wi142, ↓b_l143, ↓b_i143, ↓b_wi143, ↓b_l144, ↓b_j144, ↓b_wj144, ↓b_l145, ↓b_j145, ↓b_wj145, ↓b_l146, ↓b_i146, ↓b_wi146, ↓b_l147, ↓b_i147, ↓b_wi147, ↓b_l148, ↓b_i148, ↓b_wi148, ↓b_l149, ↓b_i149, ↓b_wi149, ↓b_l150, ↓b_j150, ↓b_wj150, ↓b_l151, ↓b_i151, ↓b_wi151, ↓b_l152, ↓b_j152, ↓b_wj152, ↓b_l153, ↓b_i153, ↓b_wi153, ↓b_l154, ↓b_i154, ↓b_wi154, ↓b_l155, ↓b_j155, ↓b_wj155, ↓b_l156, ↓b_j156, ↓b_wj156, ↓b_l138, ↓b_j138, ↓b_wj138, ↓b_a5, ↓b_a13, ↓b_a44, ↓b_lA, ↓b_aA_0, ↓b_aA_1, ↓b_iA_2, ↓b_wiA_2, ↓b_iA_4, ↓b_wiA_4, ↓b_iA_5, ↓b_wiA_5, ↓b_iA_6, ↓b_wiA_6, ↓b_jA_3, ↓b_wjA_3, ↓b_lT, ↓b_lTc, ↓b_aT, ↓b_iT, ↓b_wiT, ↓b_iTc, ↓b_wiTc, ↓b_lW, ↓b_lWc, ↓b_aW, ↓b_iW, ↓b_wiW, ↓b_jWc, ↓b_wjWc, ↓b_rt, ↓b_ru, ↓b_wt, ↓b_wu, ↓b_0l, ↓b_0, ↓b_1, ↓b_2, m_tk, ↓reduceIte, cond_true, cond_false, Option.bind_some, y_Evaluator_fits, e_Evaluator_fits_0, e_Evaluator_fits_18, e_Evaluator_fits_93, e_Evaluator_fits_94, e_Evaluator_fits_95, e_Evaluator_fits_122, e_Evaluator_fits_123, e_Evaluator_fits_124, e_Evaluator_fits_144, e_Evaluator_fits_160, e_Evaluator_fits_161, ↓bI n1, show ¬ (40 : Int32) = 95 by decide, o4, ↓bI ip, hp, m_b0, nI_1, ↓bJ tl, ↓bI ih1, ↓bI ac, ↓bJ tr, ↓bI ih2, ft3_0, i_11, i_01, i_1_0, i_0_1, not_true, not_false_eq_true, if_true, if_false, Bool.true_eq_false, Bool.false_eq_true, decide_true, decide_false]
            rfl
        · have b1' : (pt (f (u + 1)) k (i + 1) (lfT x) va).1 = false := by simpa using b1
          rw [pt_1 h40 hp b1', b1']
          rw [b1'] at ih1
          simp (maxSteps := 4000000) (disch := first | omega | assumption) only [↓b_ix, ↓b_l3, ↓b_a3_0, ↓b_a3_1, ↓b_a3_2, ↓b_l4, ↓b_a4_0, ↓b_a4_1, ↓b_a4_2, ↓b_a4_3, ↓b_l129, ↓b_a129_0, ↓b_l130, ↓b_i130_1, ↓b_wi130_1, ↓b_l133, ↓b_a133_0, ↓b_a133_1, ↓b_i133_2, ↓b_wi133_2, ↓b_j133_3, ↓b_wj133_3, ↓b_i133_4, ↓b_wi133_4, ↓b_l134, ↓b_a134_0, ↓b_a134_1, ↓b_i134_2, ↓b_wi134_2, ↓b_i134_3, ↓b_wi134_3, ↓b_l135, ↓b_i135_1, ↓b_wi135_1, ↓b_l139, ↓b_a139_0, ↓b_a139_1, ↓b_a139_2, ↓b_a139_3, ↓b_a139_4, ↓b_a139_5, ↓b_a139_6, ↓b_a139_7, ↓b_a139_8, ↓b_a139_9, ↓b_a139_10, ↓b_a139_11, ↓b_a139_12, ↓b_a139_13, ↓b_a139_14, ↓b_i139_15, ↓b_wi139_15, ↓b_i139_16, ↓b_wi139_16, ↓b_i139_17, ↓b_wi139_17, ↓b_a139_18, ↓b_i139_19, ↓b_wi139_19, ↓b_i139_20, ↓b_wi139_20, ↓b_i139_21, ↓b_wi139_21, ↓b_l6, ↓b_i6, ↓b_wi6, ↓b_l140, ↓b_i140, ↓b_wi140, ↓b_l141, ↓b_i141, ↓b_wi141, ↓b_l142, ↓b_i142, ↓b_wi142, ↓b_l143, ↓b_i143, ↓b_wi143, ↓b_l144, ↓b_j144, ↓b_wj144, ↓b_l145, ↓b_j145, ↓b_wj145, ↓b_l146, ↓b_i146, ↓b_wi146, ↓b_l147, ↓b_i147, ↓b_wi147, ↓b_l148, ↓b_i148, ↓b_wi148, ↓b_l149, ↓b_i149, ↓b_wi149, ↓b_l150, ↓b_j150, ↓b_wj150, ↓b_l151, ↓b_i151, ↓b_wi151, ↓b_l152, ↓b_j152, ↓b_wj152, ↓b_l153, ↓b_i153, ↓b_wi153, ↓b_l154, ↓b_i154, ↓b_wi154, ↓b_l155, ↓b_j155, ↓b_wj155, ↓b_l156, ↓b_j156, ↓b_wj156, ↓b_l138, ↓b_j138, ↓b_wj138, ↓b_a5, ↓b_a13, ↓b_a44, ↓b_lA, ↓b_aA_0, ↓b_aA_1, ↓b_iA_2, ↓b_wiA_2, ↓b_iA_4, ↓b_wiA_4, ↓b_iA_5, ↓b_wiA_5, ↓b_iA_6, ↓b_wiA_6, ↓b_jA_3, ↓b_wjA_3, ↓b_lT, ↓b_lTc, ↓b_aT, ↓b_iT, ↓b_wiT, ↓b_iTc, ↓b_wiTc, ↓b_lW, ↓b_lWc, ↓b_aW, ↓b_iW, ↓b_wiW, ↓b_jWc, ↓b_wjWc, ↓b_rt, ↓b_ru, ↓b_wt, ↓b_wu, ↓b_0l, ↓b_0, ↓b_1, ↓b_2, m_tk, ↓reduceIte, cond_true, cond_false, Option.bind_some, y_Evaluator_fits, e_Evaluator_fits_0, e_Evaluator_fits_18, e_Evaluator_fits_93, e_Evaluator_fits_94, e_Evaluator_fits_95, e_Evaluator_fits_122, e_Evaluator_fits_123, e_Evaluator_fits_124, e_Evaluator_fits_144, e_Evaluator_fits_160, e_Evaluator_fits_161, ↓bI n1, show ¬ (40 : Int32) = 95 by decide, o4, ↓bI ip, hp, m_b0, nI_1, ↓bJ tl, ↓bI ih1, ft3_0, i_11, i_01, i_1_0, i_0_1, not_true, not_false_eq_true, if_true, if_false, Bool.true_eq_false, Bool.false_eq_true, decide_true, decide_false]
          rfl
    · have h40 : ¬ f (u + 1) i = 40 := fun e => h.2.1 (.inl e)
      rw [pt_s h40]
      exact c_fit0 (by omega) hT hx hV h
end CG
