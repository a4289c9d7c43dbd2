/-! THE CLASS FINDS THE CLAUSE -/
def fE (f f' : mF) : Prop := ∀ x k, x ≠ 134 → x ≠ 135 → f' x k = f x k
def gE (g g' : mG) : Prop := ∀ x k, x ≠ 138 → g' x k = g x k
theorem fE_r (f : mF) : fE f f := fun _ _ _ _ => rfl
theorem gE_r (g : mG) : gE g g := fun _ _ _ => rfl
theorem fE_t {f f' f'' : mF} (h : fE f f') (h' : fE f' f'') : fE f f'' := fun x k a b => (h' x k a b).trans (h x k a b)
theorem gE_t {f f' f'' : mG} (h : gE f f') (h' : gE f' f'') : gE f f'' := fun x k a => (h' x k a).trans (h x k a)
theorem fE_u {f f' : mF} {A k : Nat} {v : Int32} (h : fE f f') (hA : A = 134 ∨ A = 135) : fE f (m_u f' A k v) := fun x j a b => by rw [m_un (by omega)]; exact h x j a b
theorem gE_v {g : mG} {va : Nat → sTm} : gE g (gva g va) := fun x k h => gva_n h
def fcR (self : Nat) (o : Option (Nat × Nat × (Nat → sTm))) (r : Int32) (f' : mF) (g' : mG) : Prop := match o with
  | none => r = -1
  | some q => r = nI q.1 ∧ q.1 < 60 ∧ f' 135 1 = nP q.2.1 ∧ f' 134 3 = 0 ∧ f' 134 2 = nI self ∧ ∀ k, k < 6 → g' 138 k = cTh (q.2.2 k) ∧ vV (q.2.2 k)
theorem tk_all {w : Nat → Int32} {n self i j1 j2 j : Nat} {st x : sTm} (h6 : self < 6) (hst : tv st.1 st.2) (hx : tv x.1 x.2) (h : cz w n i j1 j2 j) (ht : (tk w n self st x i).1 = true) : (tk w n self st x i).2.1 = j2 ∧ ∀ k, k < 6 → vV ((tk w n self st x i).2.2 k) := by
  unfold tk at ht ⊢
  obtain ⟨p1, p2, p3, p4⟩ := pt_all 4 hx (va0_V hst) h.1
  by_cases b1 : (pt w 4 i x (va0 st)).1 = true
  · rw [if_pos b1] at ht ⊢
    have e1 := p3 b1
    obtain ⟨g1, g2, g3⟩ := gd_all (self := self) (va := (pt w 4 i x (va0 st)).2.2) h6 p4 h.2.1
    rw [e1] at ht ⊢
    exact ⟨g3 ht, p4⟩
  · rw [if_neg b1] at ht; exact (nomatch (ht : false = true))
theorem fc_ok {w : Nat → Int32} {n self : Nat} {st x : sTm} (h6 : self < 6) (hn : n ≤ 60) (hst : tv st.1 st.2) (hx : tv x.1 x.2) : ∀ m cl i q, pz w n m i → fc w n self st x m cl i = some q → q.2.1 < n ∧ w q.2.1 = 58 ∧ (∃ j, az w n 60 (q.2.1 + 1) j) ∧ (∀ k, k < 6 → vV (q.2.2 k)) ∧ q.1 < cl + m
  | 0, cl, i, q, _, h => (nomatch h)
  | m + 1, cl, i, q, hp, h => by
    unfold fc at h
    rcases hp with hp | ⟨hi, j1, j2, j, hc, hp⟩
    · rw [if_pos hp] at h; exact (nomatch h)
    · rw [if_neg (by omega)] at h
      by_cases ht : (tk w n self st x i).1 = true
      · rw [if_pos ht] at h
        obtain ⟨a1, a2⟩ := tk_all h6 hst hx hc ht
        have := (Option.some.inj h).symm
        subst this
        simp only
        rw [a1]
        exact ⟨hc.2.2.1, hc.2.2.2.1, ⟨j, hc.2.2.2.2⟩, a2, by omega⟩
      · rw [if_neg ht] at h
        obtain ⟨z1, z2⟩ := no59_cz hc
        have hn1 := cz_n hc
        rw [nx_e (q := j - 1) 60 i (by omega) (by omega) z1 z2, show j - 1 + 1 = j by omega] at h
        have := fc_ok h6 hn hst hx m (cl + 1) j q hp h
        exact ⟨this.1, this.2.1, this.2.2.1, this.2.2.2.1, by omega⟩
section FO
variable {xs : List Int32} {t u c s n d self : Nat}
theorem c_fcL {st x : sTm} (hd : 13 ≤ d) (h6 : self < 6) (hst : tv st.1 st.2) (hx : tv x.1 x.2) : ∀ m cl i {f : mF} {g : mG}, cl + m = 60 → i ≤ n → mX f u n → f 133 2 = nI self → g (14 + 5 * self) 3 = cTh st → pz (f (u + 1)) n m i → ∃ f' g' r, am_X (am_Y d) k_Stepper_findClause 30 [(0, .ref 133), (1, .long (cTh x)), (3, .ref (14 + 5 * self)), (4, .int (nI cl))] [] (mM xs (m_u f 135 1 (nP i)) g t u c s) = some (.inl (some (.int r)), mM xs f' g' t u c s) ∧ fE f f' ∧ gE g g' ∧ fcR self (fc (f (u + 1)) n self st x m cl i) r f' g'
  | 0, cl, i, f, g, hm, hi, hT, hs, hg, hp => by
    have : cl = 60 := by omega
    subst this
    refine ⟨m_u f 135 1 (nP i), g, -1, ?_, fE_u (fE_r f) (by omega), gE_r g, rfl⟩
    rw [e_Stepper_findClause_30, if_pos (of_eq_true e60'), e_Stepper_findClause_108]
  | m + 1, cl, i, f, g, hm, hi, hT, hs, hg, hp => by
    have h1 : 1 ≤ d := by omega
    have hn := hT.2.2.2.1
    have hu := hT.2.1
    have ae := c_isAtEnd2 (xs := xs) (g := g) (t := t) (c := c) (s := s) (i := i) h1 hT
    rcases hp with hp | ⟨hin, j1, j2, j, hc, hp⟩
    · refine ⟨m_u f 135 1 (nP i), g, -1, ?_, fE_u (fE_r f) (by omega), gE_r g, ?_⟩
      · simp (maxSteps := 4000000) (disch := first | omega | assumption) only [↓b_ix, ↓b_l3, ↓b_a3_0, ↓b_a3_1, ↓b_a3_2, ↓b_l4, ↓b_a4_0, ↓b_a4_1, ↓b_a4_2, ↓b_a4_3, ↓b_l129, ↓b_a129_0, ↓b_l130, ↓b_i130_1, ↓b_wi130_1, ↓b_l133, ↓b_a133_0, ↓b_a133_1, ↓b_i133_2, ↓b_wi133_2, ↓b_j133_3, ↓b_wj133_3, ↓b_i133_4, ↓b_wi133_4, ↓b_l134, ↓b_a134_0, ↓b_a134_1, ↓b_i134_2, ↓b_wi134_2, ↓b_i134_3, ↓b_wi134_3, ↓b_l135, ↓b_i135_1, ↓b_wi135_1, ↓b_l139, ↓b_a139_0, ↓b_a139_1, ↓b_a139_2, ↓b_a139_3, ↓b_a139_4, ↓b_a139_5, ↓b_a139_6, ↓b_a139_7, ↓b_a139_8, ↓b_a139_9, ↓b_a139_10, ↓b_a139_11, ↓b_a139_12, ↓b_a139_13, ↓b_a139_14, ↓b_i139_15, ↓b_wi139_15, ↓b_i139_16, ↓b_wi139_16, ↓b_i139_17, ↓b_wi139_17, ↓b_a139_18, ↓b_i139_19, ↓b_wi139_19, ↓b_i139_20, ↓b_wi139_20, ↓b_i139_21, ↓b_wi139_21, ↓b_l6, ↓b_i6, ↓b_wi6, ↓b_l140, ↓b_i140, ↓b_wi140, ↓b_l141, ↓b_i141, ↓b_wi141, ↓b_l142, ↓b_i142, ↓b_wi142, ↓b_l143, ↓b_i143, ↓b_wi143, ↓b_l144, ↓b_j144, ↓b_wj144, ↓b_l145, ↓b_j145, ↓b_wj145, ↓b_l146, ↓b_i146, ↓b_wi146, ↓b_l147, ↓b_i147, ↓b_wi147, ↓b_l148, ↓b_i148, ↓b_wi148, ↓b_l149, ↓b_i149, ↓b_wi149, ↓b_l150, ↓b_j150, ↓b_wj150, ↓b_l151, ↓b_i151, ↓b_wi151, ↓b_l152, ↓b_j152, ↓b_wj152, ↓b_l153, ↓b_i153, ↓b_wi153, ↓b_l154, ↓b_i154, ↓b_wi154, ↓b_l155, ↓b_j155, ↓b_wj155, ↓b_l156, ↓b_j156, ↓b_wj156, ↓b_l138, ↓b_j138, ↓b_wj138, ↓b_a5, ↓b_a13, ↓b_a44, ↓b_lA, ↓b_aA_0, ↓b_aA_1, ↓b_iA_2, ↓b_wiA_2, ↓b_iA_4, ↓b_wiA_4, ↓b_iA_5, ↓b_wiA_5, ↓b_iA_6, ↓b_wiA_6, ↓b_jA_3, ↓b_wjA_3, ↓b_lT, ↓b_lTc, ↓b_aT, ↓b_iT, ↓b_wiT, ↓b_iTc, ↓b_wiTc, ↓b_lW, ↓b_lWc, ↓b_aW, ↓b_iW, ↓b_wiW, ↓b_jWc, ↓b_wjWc, ↓b_rt, ↓b_ru, ↓b_wt, ↓b_wu, ↓b_0l, ↓b_0, ↓b_1, ↓b_2, m_tk, ↓reduceIte, cond_true, cond_false, Option.bind_some, e_Stepper_findClause_0, e_Stepper_findClause_30, e_Stepper_findClause_90, e_Stepper_findClause_108, e60, ↓bI ae, hp, m_b0, i_11, i_01, i_1_0, i_0_1, not_true, not_false_eq_true, if_true, if_false, Bool.true_eq_false, Bool.false_eq_true, decide_true, decide_false]
      · unfold fc; rw [if_pos hp]; rfl
    · have hni : ¬ n ≤ i := by omega
      have s1 : m_u f 135 1 (nP i) 133 2 = nI self := by rw [m_un (by omega)]; exact hs
      have bg := c_begin (xs := xs) (f := f) (g := g) (t := t) (u := u) (c := c) (s := s) (st := st) (x := nI self) (p := nP i) h1
      have hT1 : mX (m_u f 134 2 (nI self)) u n := by
        obtain ⟨q1, q2, q3, q4, q5⟩ := hT
        exact ⟨q1, q2, by rw [m_un (by omega)]; exact q3, q4, fun k hk => by rw [m_un (by omega)]; exact q5 k hk⟩
      have w1 : m_u f 134 2 (nI self) (u + 1) = f (u + 1) := m_uf (by omega)
      have w2 : m_u (m_u f 134 2 (nI self)) 134 3 0 (u + 1) = f (u + 1) := by rw [m_uf (by omega), w1]
      have ft := c_fits (xs := xs) (g := g) (t := t) (c := c) (s := s) (mX_u (v := 0) hT1) 4 (o := 0) (d := d) rfl (by omega) hx (va0_V hst) (by rw [w2]; exact hc.1)
      rw [w2, show nI 0 = 0 from rfl] at ft
      obtain ⟨p1, p2, p3, p4⟩ := pt_all 4 hx (va0_V hst) hc.1
      have hcn := cz_n hc
      obtain ⟨z1, z2⟩ := no59_cz hc
      have hnx : nx (f (u + 1)) 60 i = j := by rw [nx_e (q := j - 1) 60 i (by omega) (by omega) z1 z2]; omega
      have hg1 : ∀ va', gva g va' (14 + 5 * self) 3 = cTh st := fun va' => by rw [gva_n (by omega)]; exact hg
      have next : ∀ (e' : Int32) (va' : Nat → sTm) (p : Nat), i ≤ p → p ≤ j2 → (tk (f (u + 1)) n self st x i).1 = false → ∃ f' g' r, am_X (am_Y d) k_Stepper_findClause 90 [(0, .ref 133), (1, .long (cTh x)), (3, .ref (14 + 5 * self)), (4, .int (nI cl))] [] (mM xs (m_u (m_u (m_u f 134 2 (nI self)) 134 3 e') 135 1 (nP p)) (gva g va') t u c s) = some (.inl (some (.int r)), mM xs f' g' t u c s) ∧ fE f f' ∧ gE g g' ∧ fcR self (fc (f (u + 1)) n self st x (m + 1) cl i) r f' g' := by
        intro e' va' p hp1 hp2 htk
        have w3 : m_u (m_u f 134 2 (nI self)) 134 3 e' (u + 1) = f (u + 1) := by rw [m_uf (by omega), w1]
        have sk := c_skip (xs := xs) (f := m_u (m_u f 134 2 (nI self)) 134 3 e') (g := gva g va') (t := t) (c := c) (s := s) (q := j - 1) (p := p) (show 2 ≤ d by omega) (mX_u hT1) (by omega) (by omega) (by rw [w3]; exact z1) (by rw [w3]; exact fun k a b => z2 k (by omega) b)
        rw [show j - 1 + 1 = j by omega] at sk
        obtain ⟨f', g', r, y1, y2, y3, y4⟩ := c_fcL hd h6 hst hx m (cl + 1) j (f := m_u (m_u f 134 2 (nI self)) 134 3 e') (g := gva g va') (by omega) (by omega) (mX_u hT1) (by rw [m_un (by omega), m_un (by omega)]; exact hs) (hg1 va') (by rw [w3]; exact hp)
        rw [w3] at y4
        refine ⟨f', g', r, ?_, fE_t (fE_u (fE_u (fE_r f) (by omega)) (by omega)) y2, gE_t gE_v y3, ?_⟩
        · simp (maxSteps := 4000000) (disch := first | omega | assumption) only [↓b_ix, ↓b_l3, ↓b_a3_0, ↓b_a3_1, ↓b_a3_2, ↓b_l4, ↓b_a4_0, ↓b_a4_1, ↓b_a4_2, ↓b_a4_3, ↓b_l129, ↓b_a129_0, ↓b_l130, ↓b_i130_1, ↓b_wi130_1, ↓b_l133, ↓b_a133_0, ↓b_a133_1, ↓b_i133_2, ↓b_wi133_2, ↓b_j133_3, ↓b_wj133_3, ↓b_i133_4, ↓b_wi133_4, ↓b_l134, ↓b_a134_0, ↓b_a134_1, ↓b_i134_2, ↓b_wi134_2, ↓b_i134_3, ↓b_wi134_3, ↓b_l135, ↓b_i135_1, ↓b_wi135_1, ↓b_l139, ↓b_a139_0, ↓b_a139_1, ↓b_a139_2, ↓b_a139_3, ↓b_a139_4, ↓b_a139_5, ↓b_a139_6, ↓b_a139_7, ↓b_a139_8, ↓b_a139_9, ↓b_a139_10, ↓b_a139_11, ↓b_a139_12, ↓b_a139_13, ↓b_a139_14, ↓b_i139_15, ↓b_wi139_15, ↓b_i139_16, ↓b_wi139_16, ↓b_i139_17, ↓b_wi139_17, ↓b_a139_18, ↓b_i139_19, ↓b_wi139_19, ↓b_i139_20, ↓b_wi139_20, ↓b_i139_21, ↓b_wi139_21, ↓b_l6, ↓b_i6, ↓b_wi6, ↓b_l140, ↓b_i140, ↓b_wi140, ↓b_l141, ↓b_i141, ↓b_wi141, ↓b_l142, ↓b_i142, ↓b_wi142, ↓b_l143, ↓b_i143, ↓b_wi143, ↓b_l144, ↓b_j144, ↓b_wj144, ↓b_l145, ↓b_j145, ↓b_wj145, ↓b_l146, ↓b_i146, ↓b_wi146, ↓b_l147, ↓b_i147, ↓b_wi147, ↓b_l148, ↓b_i148, ↓b_wi148, ↓b_l149, ↓b_i149, ↓b_wi149, ↓b_l150, ↓b_j150, ↓b_wj150, ↓b_l151, ↓b_i151, ↓b_wi151, ↓b_l152, ↓b_j152, ↓b_wj152, ↓b_l153, ↓b_i153, ↓b_wi153, ↓b_l154, ↓b_i154, ↓b_wi154, ↓b_l155, ↓b_j155, ↓b_wj155, ↓b_l156, ↓b_j156, ↓b_wj156, ↓b_l138, ↓b_j138, ↓b_wj138, ↓b_a5, ↓b_a13, ↓b_a44, ↓b_lA, ↓b_aA_0, ↓b_aA_1, ↓b_iA_2, ↓b_wiA_2, ↓b_iA_4, ↓b_wiA_4, ↓b_iA_5, ↓b_wiA_5, ↓b_iA_6, ↓b_wiA_6, ↓b_jA_3, ↓b_wjA_3, ↓b_lT, ↓b_lTc, ↓b_aT, ↓b_iT, ↓b_wiT, ↓b_iTc, ↓b_wiTc, ↓b_lW, ↓b_lWc, ↓b_aW, ↓b_iW, ↓b_wiW, ↓b_jWc, ↓b_wjWc, ↓b_rt, ↓b_ru, ↓b_wt, ↓b_wu, ↓b_0l, ↓b_0, ↓b_1, ↓b_2, m_tk, ↓reduceIte, cond_true, cond_false, Option.bind_some, e_Stepper_findClause_0, e_Stepper_findClause_90, e_Stepper_findClause_108, ↓bV sk, nI_1, y1]
        · unfold fc
          rw [if_neg hni, if_neg (by rw [htk]; decide), hnx]; exact y4
      by_cases b1 : (pt (f (u + 1)) 4 i x (va0 st)).1 = true
      · have e1 := p3 b1
        have g1 : gp (m_u f 134 2 (nI self) (u + 1)) n (pt (f (u + 1)) 4 i x (va0 st)).2.1 j2 := by rw [w1, e1]; exact hc.2.1
        obtain ⟨e', gd1, gd2⟩ := c_guard (xs := xs) (g := g) (t := t) (c := c) (s := s) (e := 0) (self := self) (show 12 ≤ d by omega) hT1 (by rw [m_uu]) h6 p4 g1
        rw [w1] at gd1 gd2
        have ga := gd_all (self := self) (va := (pt (f (u + 1)) 4 i x (va0 st)).2.2) h6 p4 (by rw [w1] at g1; exact g1)
        rw [b1] at ft
        by_cases b2 : (gdF (f (u + 1)) n (pt (f (u + 1)) 4 i x (va0 st)).2.2 self (pt (f (u + 1)) 4 i x (va0 st)).2.1).1 = true
        · have e2 := gd2 b2
          subst e2
          rw [b2] at gd1
          have htk : tk (f (u + 1)) n self st x i = (true, (gdF (f (u + 1)) n (pt (f (u + 1)) 4 i x (va0 st)).2.2 self (pt (f (u + 1)) 4 i x (va0 st)).2.1).2, (pt (f (u + 1)) 4 i x (va0 st)).2.2) := by
            unfold tk; rw [if_pos b1, b2]
          refine ⟨m_u (m_u (m_u f 134 2 (nI self)) 134 3 0) 135 1 (nP (gdF (f (u + 1)) n (pt (f (u + 1)) 4 i x (va0 st)).2.2 self (pt (f (u + 1)) 4 i x (va0 st)).2.1).2), gva g (pt (f (u + 1)) 4 i x (va0 st)).2.2, nI cl, ?_, fE_u (fE_u (fE_u (fE_r f) (by omega)) (by omega)) (by omega), gE_v, ?_⟩
          · rw [e_Stepper_findClause_30]
            simp (maxSteps := 4000000) (disch := first | omega | assumption) only [↓b_ix, ↓b_l3, ↓b_a3_0, ↓b_a3_1, ↓b_a3_2, ↓b_l4, ↓b_a4_0, ↓b_a4_1, ↓b_a4_2, ↓b_a4_3, ↓b_l129, ↓b_a129_0, ↓b_l130, ↓b_i130_1, ↓b_wi130_1, ↓b_l133, ↓b_a133_0, ↓b_a133_1, ↓b_i133_2, ↓b_wi133_2, ↓b_j133_3, ↓b_wj133_3, ↓b_i133_4, ↓b_wi133_4, ↓b_l134, ↓b_a134_0, ↓b_a134_1, ↓b_i134_2, ↓b_wi134_2, ↓b_i134_3, ↓b_wi134_3, ↓b_l135, ↓b_i135_1, ↓b_wi135_1, ↓b_l139, ↓b_a139_0, ↓b_a139_1, ↓b_a139_2, ↓b_a139_3, ↓b_a139_4, ↓b_a139_5, ↓b_a139_6, ↓b_a139_7, ↓b_a139_8, ↓b_a139_9, ↓b_a139_10, ↓b_a139_11, ↓b_a139_12, ↓b_a139_13, ↓b_a139_14, ↓b_i139_15, ↓b_wi139_15, ↓b_i139_16, ↓b_wi139_16, ↓b_i139_17, ↓b_wi139_17, ↓b_a139_18, ↓b_i139_19, ↓b_wi139_19, ↓b_i139_20, ↓b_wi139_20, ↓b_i139_21, ↓b_wi139_21, ↓b_l6, ↓b_i6, ↓b_wi6, ↓b_l140, ↓b_i140, ↓b_wi140, ↓b_l141, ↓b_i141, ↓b_wi141, ↓b_l142, ↓b_i142, ↓b_wi142, ↓b_l143, ↓b_i143, ↓b_wi143, ↓b_l144, ↓b_j144, ↓b_wj144, ↓b_l145, ↓b_j145, ↓b_wj145, ↓b_l146, ↓b_i146, ↓b_wi146, ↓b_l147, ↓b_i147, ↓b_wi147, ↓b_l148, ↓b_i148, ↓b_wi148, ↓b_l149, ↓b_i149, ↓b_wi149, ↓b_l150, ↓b_j150, ↓b_wj150, ↓b_l151, ↓b_i151, ↓b_wi151, ↓b_l152, ↓b_j152, ↓b_wj152, ↓b_l153, ↓b_i153, ↓b_wi153, ↓b_l154, ↓b_i154, ↓b_wi154, ↓b_l155, ↓b_j155, ↓b_wj155, ↓b_l156, ↓b_j156, ↓b_wj156, ↓b_l138, ↓b_j138, ↓b_wj138, ↓b_a5, ↓b_a13, ↓b_a44, ↓b_lA, ↓b_aA_0, ↓b_aA_1, ↓b_iA_2, ↓b_wiA_2, ↓b_iA_4, ↓b_wiA_4, ↓b_iA_5, ↓b_wiA_5, ↓b_iA_6, ↓b_wiA_6, ↓b_jA_3, ↓b_wjA_3, ↓b_lT, ↓b_lTc, ↓b_aT, ↓b_iT, ↓b_wiT, ↓b_iTc, ↓b_wiTc, ↓b_lW, ↓b_lWc, ↓b_aW, ↓b_iW, ↓b_wiW, ↓b_jWc, ↓b_wjWc, ↓b_rt, ↓b_ru, ↓b_wt, ↓b_wu, ↓b_0l, ↓b_0, ↓b_1, ↓b_2, m_tk, ↓reduceIte, cond_true, cond_false, Option.bind_some, e60, ↓bI ae, hni, m_b0, s1, hg, ↓bV bg, ↓bI ft, ↓bI gd1, i_11, i_01, i_1_0, i_0_1, not_true, not_false_eq_true, if_true, if_false, Bool.true_eq_false, Bool.false_eq_true, decide_true, decide_false]
          · unfold fc
            rw [if_neg hni, htk, if_pos rfl]
            refine ⟨rfl, by show cl < 60; omega, m_uu _, ?_, ?_, fun k hk => ⟨gva_r hk, p4 k hk⟩⟩
            · rw [m_un (by omega), m_uu]
            · rw [m_un (by omega), m_un (by omega), m_uu]
        · have b2' : (gdF (f (u + 1)) n (pt (f (u + 1)) 4 i x (va0 st)).2.2 self (pt (f (u + 1)) 4 i x (va0 st)).2.1).1 = false := by simpa using b2
          rw [b2'] at gd1
          have htk : (tk (f (u + 1)) n self st x i).1 = false := by
            unfold tk; rw [if_pos b1]; exact b2'
          obtain ⟨f', g', r, y1, y2, y3, y4⟩ := next e' (pt (f (u + 1)) 4 i x (va0 st)).2.2 _ (by omega) ga.2.1 htk
          refine ⟨f', g', r, ?_, y2, y3, y4⟩
          rw [← y1, e_Stepper_findClause_30]
          simp (maxSteps := 4000000) (disch := first | omega | assumption) only [↓b_ix, ↓b_l3, ↓b_a3_0, ↓b_a3_1, ↓b_a3_2, ↓b_l4, ↓b_a4_0, ↓b_a4_1, ↓b_a4_2, ↓b_a4_3, ↓b_l129, ↓b_a129_0, ↓b_l130, ↓b_i130_1, ↓b_wi130_1, ↓b_l133, ↓b_a133_0, ↓b_a133_1, ↓b_i133_2, ↓b_wi133_2, ↓b_j133_3, ↓b_wj133_3, ↓b_i133_4, ↓b_wi133_4, ↓b_l134, ↓b_a134_0, ↓b_a134_1, ↓b_i134_2, ↓b_wi134_2, ↓b_i134_3, ↓b_wi134_3, ↓b_l135, ↓b_i135_1, ↓b_wi135_1, ↓b_l139, ↓b_a139_0, ↓b_a139_1, ↓b_a139_2, ↓b_a139_3, ↓b_a139_4, ↓b_a139_5, ↓b_a139_6, ↓b_a139_7, ↓b_a139_8, ↓b_a139_9, ↓b_a139_10, ↓b_a139_11, ↓b_a139_12, ↓b_a139_13, ↓b_a139_14, ↓b_i139_15, ↓b_wi139_15, ↓b_i139_16, ↓b_wi139_16, ↓b_i139_17, ↓b_wi139_17, ↓b_a139_18, ↓b_i139_19, ↓b_wi139_19, ↓b_i139_20, ↓b_wi139_20, ↓b_i139_21, ↓b_wi139_21, ↓b_l6, ↓b_i6, ↓b_wi6, ↓b_l140, ↓b_i140, ↓b_wi140, ↓b_l141, ↓b_i141, ↓b_wi141, ↓b_l142, ↓b_i142, ↓b_wi142, ↓b_l143, ↓b_i143, ↓b_wi143, ↓b_l144, ↓b_j144, ↓b_wj144, ↓b_l145, ↓b_j145, ↓b_wj145, ↓b_l146, ↓b_i146, ↓b_wi146, ↓b_l147, ↓b_i147, ↓b_wi147, ↓b_l148, ↓b_i148, ↓b_wi148, ↓b_l149, ↓b_i149, ↓b_wi149, ↓b_l150, ↓b_j150, ↓b_wj150, ↓b_l151, ↓b_i151, ↓b_wi151, ↓b_l152, ↓b_j152, ↓b_wj152, ↓b_l153, ↓b_i153, ↓b_wi153, ↓b_l154, ↓b_i154, ↓b_wi154, ↓b_l155, ↓b_j155, ↓b_wj155, ↓b_l156, ↓b_j156, ↓b_wj156, ↓b_l138, ↓b_j138, ↓b_wj138, ↓b_a5, ↓b_a13, ↓b_a44, ↓b_lA, ↓b_aA_0, ↓b_aA_1, ↓b_iA_2, ↓b_wiA_2, ↓b_iA_4, ↓b_wiA_4, ↓b_iA_5, ↓b_wiA_5, ↓b_iA_6, ↓b_wiA_6, ↓b_jA_3, ↓b_wjA_3, ↓b_lT, ↓b_lTc, ↓b_aT, ↓b_iT, ↓b_wiT, ↓b_iTc, ↓b_wiTc, ↓b_lW, ↓b_lWc, ↓b_aW, ↓b_iW, ↓b_wiW, ↓b_jWc, ↓b_wjWc, ↓b_rt, ↓b_ru, ↓b_wt, ↓b_wu, ↓b_0l, ↓b_0, ↓b_1, ↓b_2, m_tk, ↓reduceIte, cond_true, cond_false, Option.bind_some, e60, ↓bI ae, hni, m_b0, s1, hg, ↓bV bg, ↓bI ft, ↓bI gd1, i_11, i_01, i_1_0, i_0_1, not_true, not_false_eq_true, if_true, if_false, Bool.true_eq_false, Bool.false_eq_true, decide_true, decide_false]
      · have b1' : (pt (f (u + 1)) 4 i x (va0 st)).1 = false := by simpa using b1
        rw [b1'] at ft
        have htk : (tk (f (u + 1)) n self st x i).1 = false := by
          unfold tk; rw [if_neg b1]
        obtain ⟨f', g', r, y1, y2, y3, y4⟩ := next 0 (pt (f (u + 1)) 4 i x (va0 st)).2.2 _ p1 (by omega) htk
        refine ⟨f', g', r, ?_, y2, y3, y4⟩
        rw [← y1, e_Stepper_findClause_30]
        simp (maxSteps := 4000000) (disch := first | omega | assumption) only [↓b_ix, ↓b_l3, ↓b_a3_0, ↓b_a3_1, ↓b_a3_2, ↓b_l4, ↓b_a4_0, ↓b_a4_1, ↓b_a4_2, ↓b_a4_3, ↓b_l129, ↓b_a129_0, ↓b_l130, ↓b_i130_1, ↓b_wi130_1, ↓b_l133, ↓b_a133_0, ↓b_a133_1, ↓b_i133_2, ↓b_wi133_2, ↓b_j133_3, ↓b_wj133_3, ↓b_i133_4, ↓b_wi133_4, ↓b_l134, ↓b_a134_0, ↓b_a134_1, ↓b_i134_2, ↓b_wi134_2, ↓b_i134_3, ↓b_wi134_3, ↓b_l135, ↓b_i135_1, ↓b_wi135_1, ↓b_l139, ↓b_a139_0, ↓b_a139_1, ↓b_a139_2, ↓b_a139_3, ↓b_a139_4, ↓b_a139_5, ↓b_a139_6, ↓b_a139_7, ↓b_a139_8, ↓b_a139_9, ↓b_a139_10, ↓b_a139_11, ↓b_a139_12, ↓b_a139_13, ↓b_a139_14, ↓b_i139_15, ↓b_wi139_15, ↓b_i139_16, ↓b_wi139_16, ↓b_i139_17, ↓b_wi139_17, ↓b_a139_18, ↓b_i139_19, ↓b_wi139_19, ↓b_i139_20, ↓b_wi139_20, ↓b_i139_21, ↓b_wi139_21, ↓b_l6, ↓b_i6, ↓b_wi6, ↓b_l140, ↓b_i140, ↓b_wi140, ↓b_l141, ↓b_i141, ↓b_wi141, ↓b_l142, ↓b_i142, ↓b_wi142, ↓b_l143, ↓b_i143, ↓b_wi143, ↓b_l144, ↓b_j144, ↓b_wj144, ↓b_l145, ↓b_j145, ↓b_wj145, ↓b_l146, ↓b_i146, ↓b_wi146, ↓b_l147, ↓b_i147, ↓b_wi147, ↓b_l148, ↓b_i148, ↓b_wi148, ↓b_l149, ↓b_i149, ↓b_wi149, ↓b_l150, ↓b_j150, ↓b_wj150, ↓b_l151, ↓b_i151, ↓b_wi151, ↓b_l152, ↓b_j152, ↓b_wj152, ↓b_l153, ↓b_i153, ↓b_wi153, ↓b_l154, ↓b_i154, ↓b_wi154, ↓b_l155, ↓b_j155, ↓b_wj155, ↓b_l156, ↓b_j156, ↓b_wj156, ↓b_l138, ↓b_j138, ↓b_wj138, ↓b_a5, ↓b_a13, ↓b_a44, ↓b_lA, ↓b_aA_0, ↓b_aA_1, ↓b_iA_2, ↓b_wiA_2, ↓b_iA_4, ↓b_wiA_4, ↓b_iA_5, ↓b_wiA_5, ↓b_iA_6, ↓b_wiA_6, ↓b_jA_3, ↓b_wjA_3, ↓b_lT, ↓b_lTc, ↓b_aT, ↓b_iT, ↓b_wiT, ↓b_iTc, ↓b_wiTc, ↓b_lW, ↓b_lWc, ↓b_aW, ↓b_iW, ↓b_wiW, ↓b_jWc, ↓b_wjWc, ↓b_rt, ↓b_ru, ↓b_wt, ↓b_wu, ↓b_0l, ↓b_0, ↓b_1, ↓b_2, m_tk, ↓reduceIte, cond_true, cond_false, Option.bind_some, e60, ↓bI ae, hni, m_b0, s1, hg, ↓bV bg, ↓bI ft, i_11, i_01, i_1_0, i_0_1, not_true, not_false_eq_true, if_true, if_false, Bool.true_eq_false, Bool.false_eq_true, decide_true, decide_false]
theorem c_findClause {f : mF} {g : mG} {st x : sTm} (hd : 14 ≤ d) (h6 : self < 6) (hst : tv st.1 st.2) (hx : tv x.1 x.2) (hT : mX f (15 + 5 * self) n) (hs : f 133 2 = nI self) (hg : g (14 + 5 * self) 3 = cTh st) (hp : pz (f (15 + 5 * self + 1)) n 60 0) : ∃ f' g' r, am_Y d 36 [.ref 133, .long (cTh x)] (mM xs f g t u c s) = some (.inl (some (.int r)), mM xs f' g' t (15 + 5 * self) c s) ∧ fE f f' ∧ gE g g' ∧ fcR self (fc (f (15 + 5 * self + 1)) n self st x 60 0 0) r f' g' := by
  obtain ⟨d, rfl⟩ : ∃ e, d = e + 1 := ⟨d - 1, by omega⟩
  have h1 : 1 ≤ d := by omega
  have op := c_open2 (xs := xs) (f := f) (g := g) (t := t) (u := u) (c := c) (s := s) h1 (mT_a h6)
  obtain ⟨f', g', r, y1, y2, y3, y4⟩ := c_fcL (xs := xs) (t := t) (c := c) (s := s) (show 13 ≤ d by omega) h6 hst hx 60 0 0 (f := f) (g := g) rfl (by omega) hT hs hg hp
  refine ⟨f', g', r, ?_, y2, y3, y4⟩
  rw [← y1]
  simp (maxSteps := 4000000) (disch := first | omega | assumption) only [↓b_ix, ↓b_l3, ↓b_a3_0, ↓b_a3_1, ↓b_a3_2, ↓b_l4, ↓b_a4_0, ↓b_a4_1, ↓b_a4_2, ↓b_a4_3, ↓b_l129, ↓b_a129_0, ↓b_l130, ↓b_i130_1, ↓b_wi130_1, ↓b_l133, ↓b_a133_0, ↓b_a133_1, ↓b_i133_2, ↓b_wi133_2, ↓b_j133_3, ↓b_wj133_3, ↓b_i133_4, ↓b_wi133_4, ↓b_l134, ↓b_a134_0, ↓b_a134_1, ↓b_i134_2, ↓b_wi134_2, ↓b_i134_3, ↓b_wi134_3, ↓b_l135, ↓b_i135_1, ↓b_wi135_1, ↓b_l139, ↓b_a139_0, ↓b_a139_1, ↓b_a139_2, ↓b_a139_3, ↓b_a139_4, ↓b_a139_5, ↓b_a139_6, ↓b_a139_7, ↓b_a139_8, ↓b_a139_9, ↓b_a139_10, ↓b_a139_11, ↓b_a139_12, ↓b_a139_13, ↓b_a139_14, ↓b_i139_15, ↓b_wi139_15, ↓b_i139_16, ↓b_wi139_16, ↓b_i139_17, ↓b_wi139_17, ↓b_a139_18, ↓b_i139_19, ↓b_wi139_19, ↓b_i139_20, ↓b_wi139_20, ↓b_i139_21, ↓b_wi139_21, ↓b_l6, ↓b_i6, ↓b_wi6, ↓b_l140, ↓b_i140, ↓b_wi140, ↓b_l141, ↓b_i141, ↓b_wi141, ↓b_l142, ↓b_i142, ↓b_wi142, ↓b_l143, ↓b_i143, ↓b_wi143, ↓b_l144, ↓b_j144, ↓b_wj144, ↓b_l145, ↓b_j145, ↓b_wj145, ↓b_l146, ↓b_i146, ↓b_wi146, ↓b_l147, ↓b_i147, ↓b_wi147, ↓b_l148, ↓b_i148, ↓b_wi148, ↓b_l149, ↓b_i149, ↓b_wi149, ↓b_l150, ↓b_j150, ↓b_wj150, ↓b_l151, ↓b_i151, ↓b_wi151, ↓b_l152, ↓b_j152, ↓b_wj152, ↓b_l153, ↓b_i153, ↓b_wi153, ↓b_l154, ↓b_i154, ↓b_wi154, ↓b_l155, ↓b_j155, ↓b_wj155, ↓b_l156, ↓b_j156, ↓b_wj156, ↓b_l138, ↓b_j138, ↓b_wj138, ↓b_a5, ↓b_a13, ↓b_a44, ↓b_lA, ↓b_aA_0, ↓b_aA_1, ↓b_iA_2, ↓b_wiA_2, ↓b_iA_4, ↓b_wiA_4, ↓b_iA_5, ↓b_wiA_5, ↓b_iA_6, ↓b_wiA_6, ↓b_jA_3, ↓b_wjA_3, ↓b_lT, ↓b_lTc, ↓b_aT, ↓b_iT, ↓b_wiT, ↓b_iTc, ↓b_wiTc, ↓b_lW, ↓b_lWc, ↓b_aW, ↓b_iW, ↓b_wiW, ↓b_jWc, ↓b_wjWc, ↓b_rt, ↓b_ru, ↓b_wt, ↓b_wu, ↓b_0l, ↓b_0, ↓b_1, ↓b_2, m_tk, ↓reduceIte, cond_true, cond_false, Option.bind_some, y_Stepper_findClause, e_Stepper_findClause_0, e_Stepper_findClause_90, e_Stepper_findClause_108, hs, ↓bV op]
  rfl
def fi (w : Nat → Int32) (n self : Nat) (st : sTm) (ml : Nat → sTm) : Nat → Nat → Option (Nat × Nat × Nat × (Nat → sTm))
  | 0, _ => none
  | q + 1, k => match fc w n self st (ml k) 60 0 0 with
    | some r => some (k, r)
    | none => fi w n self st ml q (k + 1)
def fiR (self : Nat) (o : Option (Nat × Nat × Nat × (Nat → sTm))) (r : Int32) (f' : mF) (g' : mG) (u' : Nat) : Prop := match o with
  | none => r = -1
  | some q => r = nI (q.1 * 100 + q.2.1) ∧ u' = 15 + 5 * self ∧ q.2.1 < 60 ∧ f' 135 1 = nP q.2.2.1 ∧ f' 134 3 = 0 ∧ f' 134 2 = nI self ∧ ∀ k, k < 6 → g' 138 k = cTh (q.2.2.2 k) ∧ vV (q.2.2.2 k)
theorem c_findL {st : sTm} {ml : Nat → sTm} {N : Nat} (hd : 14 ≤ d) (h6 : self < 6) (hN : N ≤ 6) (hst : tv st.1 st.2) (hm : ∀ k, k < N → tv (ml k).1 (ml k).2) : ∀ q k {f : mF} {g : mG} {u : Nat}, q + k = N → mX f (15 + 5 * self) n → f 133 2 = nI self → f (17 + 5 * self) 1 = nI N → g (14 + 5 * self) 3 = cTh st → (∀ k, k < N → g (18 + 5 * self) k = cTh (ml k)) → pz (f (15 + 5 * self + 1)) n 60 0 → ∃ f' g' u' r, am_X (am_Y d) k_Stepper_find 20 [(0, .ref 133), (2, .ref (17 + 5 * self)), (3, .int (nI k))] [] (mM xs f g t u c s) = some (.inl (some (.int r)), mM xs f' g' t u' c s) ∧ fE f f' ∧ gE g g' ∧ fiR self (fi (f (15 + 5 * self + 1)) n self st ml q k) r f' g' u'
  | 0, k, f, g, u, hq, hT, hs, hc, hg, hgm, hp => by
    refine ⟨f, g, u, -1, ?_, fE_r f, gE_r g, rfl⟩
    simp (maxSteps := 4000000) (disch := first | omega | assumption) only [↓b_ix, ↓b_l3, ↓b_a3_0, ↓b_a3_1, ↓b_a3_2, ↓b_l4, ↓b_a4_0, ↓b_a4_1, ↓b_a4_2, ↓b_a4_3, ↓b_l129, ↓b_a129_0, ↓b_l130, ↓b_i130_1, ↓b_wi130_1, ↓b_l133, ↓b_a133_0, ↓b_a133_1, ↓b_i133_2, ↓b_wi133_2, ↓b_j133_3, ↓b_wj133_3, ↓b_i133_4, ↓b_wi133_4, ↓b_l134, ↓b_a134_0, ↓b_a134_1, ↓b_i134_2, ↓b_wi134_2, ↓b_i134_3, ↓b_wi134_3, ↓b_l135, ↓b_i135_1, ↓b_wi135_1, ↓b_l139, ↓b_a139_0, ↓b_a139_1, ↓b_a139_2, ↓b_a139_3, ↓b_a139_4, ↓b_a139_5, ↓b_a139_6, ↓b_a139_7, ↓b_a139_8, ↓b_a139_9, ↓b_a139_10, ↓b_a139_11, ↓b_a139_12, ↓b_a139_13, ↓b_a139_14, ↓b_i139_15, ↓b_wi139_15, ↓b_i139_16, ↓b_wi139_16, ↓b_i139_17, ↓b_wi139_17, ↓b_a139_18, ↓b_i139_19, ↓b_wi139_19, ↓b_i139_20, ↓b_wi139_20, ↓b_i139_21, ↓b_wi139_21, ↓b_l6, ↓b_i6, ↓b_wi6, ↓b_l140, ↓b_i140, ↓b_wi140, ↓b_l141, ↓b_i141, ↓b_wi141, ↓b_l142, ↓b_i142, ↓b_wi142, ↓b_l143, ↓b_i143, ↓b_wi143, ↓b_l144, ↓b_j144, ↓b_wj144, ↓b_l145, ↓b_j145, ↓b_wj145, ↓b_l146, ↓b_i146, ↓b_wi146, ↓b_l147, ↓b_i147, ↓b_wi147, ↓b_l148, ↓b_i148, ↓b_wi148, ↓b_l149, ↓b_i149, ↓b_wi149, ↓b_l150, ↓b_j150, ↓b_wj150, ↓b_l151, ↓b_i151, ↓b_wi151, ↓b_l152, ↓b_j152, ↓b_wj152, ↓b_l153, ↓b_i153, ↓b_wi153, ↓b_l154, ↓b_i154, ↓b_wi154, ↓b_l155, ↓b_j155, ↓b_wj155, ↓b_l156, ↓b_j156, ↓b_wj156, ↓b_l138, ↓b_j138, ↓b_wj138, ↓b_a5, ↓b_a13, ↓b_a44, ↓b_lA, ↓b_aA_0, ↓b_aA_1, ↓b_iA_2, ↓b_wiA_2, ↓b_iA_4, ↓b_wiA_4, ↓b_iA_5, ↓b_wiA_5, ↓b_iA_6, ↓b_wiA_6, ↓b_jA_3, ↓b_wjA_3, ↓b_lT, ↓b_lTc, ↓b_aT, ↓b_iT, ↓b_wiT, ↓b_iTc, ↓b_wiTc, ↓b_lW, ↓b_lWc, ↓b_aW, ↓b_iW, ↓b_wiW, ↓b_jWc, ↓b_wjWc, ↓b_rt, ↓b_ru, ↓b_wt, ↓b_wu, ↓b_0l, ↓b_0, ↓b_1, ↓b_2, m_tk, ↓reduceIte, cond_true, cond_false, Option.bind_some, ↓b_iW _ (mW_m h6), e_Stepper_find_0, e_Stepper_find_20, e_Stepper_find_52, e_Stepper_find_58, hc, nI_leI, show N ≤ k by omega, if_true]
  | q + 1, k, f, g, u, hq, hT, hs, hc, hg, hgm, hp => by
    have at1 := c_at (xs := xs) (g := g) (t := t) (u := u) (c := c) (s := s) (i := k) (show 1 ≤ d by omega) (mW_m h6) hc hN (by omega)
    rw [if_pos (by omega), show 17 + 5 * self + 1 = 18 + 5 * self by omega, hgm k (by omega)] at at1
    obtain ⟨f1, g1, r1, y1, y2, y3, y4⟩ := c_findClause (xs := xs) (t := t) (u := u) (c := c) (s := s) hd h6 hst (hm k (by omega)) hT hs hg hp
    have hw1 : f1 (15 + 5 * self + 1) = f (15 + 5 * self + 1) := by funext j; exact y2 _ j (by omega) (by omega)
    have hk : ¬ N ≤ k := by omega
    unfold fi
    cases hfc : fc (f (15 + 5 * self + 1)) n self st (ml k) 60 0 0 with
    | none =>
      rw [hfc] at y4
      have er : r1 = -1 := y4
      subst er
      obtain ⟨f', g', u', r, z1, z2, z3, z4⟩ := c_findL hd h6 hN hst hm q (k + 1) (f := f1) (g := g1) (u := 15 + 5 * self) (by omega) (by
        obtain ⟨q1, q2, q3, q4, q5⟩ := hT
        exact ⟨q1, q2, by rw [y2 _ _ (by omega) (by omega)]; exact q3, q4, fun k hk => by rw [y2 _ _ (by omega) (by omega)]; exact q5 k hk⟩) (by rw [y2 _ _ (by omega) (by omega)]; exact hs) (by rw [y2 _ _ (by omega) (by omega)]; exact hc) (by rw [y3 _ _ (by omega)]; exact hg) (fun k hk => by rw [y3 _ _ (by omega)]; exact hgm k hk) (by rw [hw1]; exact hp)
      rw [hw1] at z4
      refine ⟨f', g', u', r, ?_, fE_t y2 z2, gE_t y3 z3, z4⟩
      rw [← z1, e_Stepper_find_20]
      simp (maxSteps := 4000000) (disch := first | omega | assumption) only [↓b_ix, ↓b_l3, ↓b_a3_0, ↓b_a3_1, ↓b_a3_2, ↓b_l4, ↓b_a4_0, ↓b_a4_1, ↓b_a4_2, ↓b_a4_3, ↓b_l129, ↓b_a129_0, ↓b_l130, ↓b_i130_1, ↓b_wi130_1, ↓b_l133, ↓b_a133_0, ↓b_a133_1, ↓b_i133_2, ↓b_wi133_2, ↓b_j133_3, ↓b_wj133_3, ↓b_i133_4, ↓b_wi133_4, ↓b_l134, ↓b_a134_0, ↓b_a134_1, ↓b_i134_2, ↓b_wi134_2, ↓b_i134_3, ↓b_wi134_3, ↓b_l135, ↓b_i135_1, ↓b_wi135_1, ↓b_l139, ↓b_a139_0, ↓b_a139_1, ↓b_a139_2, ↓b_a139_3, ↓b_a139_4, ↓b_a139_5, ↓b_a139_6, ↓b_a139_7, ↓b_a139_8, ↓b_a139_9, ↓b_a139_10, ↓b_a139_11, ↓b_a139_12, ↓b_a139_13, ↓b_a139_14, ↓b_i139_15, ↓b_wi139_15, ↓b_i139_16, ↓b_wi139_16, ↓b_i139_17, ↓b_wi139_17, ↓b_a139_18, ↓b_i139_19, ↓b_wi139_19, ↓b_i139_20, ↓b_wi139_20, ↓b_i139_21, ↓b_wi139_21, ↓b_l6, ↓b_i6, ↓b_wi6, ↓b_l140, ↓b_i140, ↓b_wi140, ↓b_l141, ↓b_i141, ↓b_wi141, ↓b_l142, ↓b_i142, ↓b_wi142, ↓b_l143, ↓b_i143, ↓b_wi143, ↓b_l144, ↓b_j144, ↓b_wj144, ↓b_l145, ↓b_j145, ↓b_wj145, ↓b_l146, ↓b_i146, ↓b_wi146, ↓b_l147, ↓b_i147, ↓b_wi147, ↓b_l148, ↓b_i148, ↓b_wi148, ↓b_l149, ↓b_i149, ↓b_wi149, ↓b_l150, ↓b_j150, ↓b_wj150, ↓b_l151, ↓b_i151, ↓b_wi151, ↓b_l152, ↓b_j152, ↓b_wj152, ↓b_l153, ↓b_i153, ↓b_wi153, ↓b_l154, ↓b_i154, ↓b_wi154, ↓b_l155, ↓b_j155, ↓b_wj155, ↓b_l156, ↓b_j156, ↓b_wj156, ↓b_l138, ↓b_j138, ↓b_wj138, ↓b_a5, ↓b_a13, ↓b_a44, ↓b_lA, ↓b_aA_0, ↓b_aA_1, ↓b_iA_2, ↓b_wiA_2, ↓b_iA_4, ↓b_wiA_4, ↓b_iA_5, ↓b_wiA_5, ↓b_iA_6, ↓b_wiA_6, ↓b_jA_3, ↓b_wjA_3, ↓b_lT, ↓b_lTc, ↓b_aT, ↓b_iT, ↓b_wiT, ↓b_iTc, ↓b_wiTc, ↓b_lW, ↓b_lWc, ↓b_aW, ↓b_iW, ↓b_wiW, ↓b_jWc, ↓b_wjWc, ↓b_rt, ↓b_ru, ↓b_wt, ↓b_wu, ↓b_0l, ↓b_0, ↓b_1, ↓b_2, m_tk, ↓reduceIte, cond_true, cond_false, Option.bind_some, ↓b_iW _ (mW_m h6), ↓b_lW _ (mW_m h6), e_Stepper_find_0, e_Stepper_find_52, e_Stepper_find_58, hc, nI_leI, hk, ↓bJ at1, ↓bI y1, show (-1 : Int32) < 0 by decide, nI_1, if_false, if_true]
    | some v =>
      rw [hfc] at y4
      obtain ⟨v1, v2, v3, v4, v5, v6⟩ := y4
      subst v1
      refine ⟨f1, g1, 15 + 5 * self, nI (k * 100 + v.1), ?_, y2, y3, rfl, rfl, v2, v3, v4, v5, v6⟩
      rw [e_Stepper_find_20]
      simp (maxSteps := 4000000) (disch := first | omega | assumption) only [↓b_ix, ↓b_l3, ↓b_a3_0, ↓b_a3_1, ↓b_a3_2, ↓b_l4, ↓b_a4_0, ↓b_a4_1, ↓b_a4_2, ↓b_a4_3, ↓b_l129, ↓b_a129_0, ↓b_l130, ↓b_i130_1, ↓b_wi130_1, ↓b_l133, ↓b_a133_0, ↓b_a133_1, ↓b_i133_2, ↓b_wi133_2, ↓b_j133_3, ↓b_wj133_3, ↓b_i133_4, ↓b_wi133_4, ↓b_l134, ↓b_a134_0, ↓b_a134_1, ↓b_i134_2, ↓b_wi134_2, ↓b_i134_3, ↓b_wi134_3, ↓b_l135, ↓b_i135_1, ↓b_wi135_1, ↓b_l139, ↓b_a139_0, ↓b_a139_1, ↓b_a139_2, ↓b_a139_3, ↓b_a139_4, ↓b_a139_5, ↓b_a139_6, ↓b_a139_7, ↓b_a139_8, ↓b_a139_9, ↓b_a139_10, ↓b_a139_11, ↓b_a139_12, ↓b_a139_13, ↓b_a139_14, ↓b_i139_15, ↓b_wi139_15, ↓b_i139_16, ↓b_wi139_16, ↓b_i139_17, ↓b_wi139_17, ↓b_a139_18, ↓b_i139_19, ↓b_wi139_19, ↓b_i139_20, ↓b_wi139_20, ↓b_i139_21, ↓b_wi139_21, ↓b_l6, ↓b_i6, ↓b_wi6, ↓b_l140, ↓b_i140, ↓b_wi140, ↓b_l141, ↓b_i141, ↓b_wi141, ↓b_l142, ↓b_i142, ↓b_wi142, ↓b_l143, ↓b_i143, ↓b_wi143, ↓b_l144, ↓b_j144, ↓b_wj144, ↓b_l145, ↓b_j145, ↓b_wj145, ↓b_l146, ↓b_i146, ↓b_wi146, ↓b_l147, ↓b_i147, ↓b_wi147, ↓b_l148, ↓b_i148, ↓b_wi148, ↓b_l149, ↓b_i149, ↓b_wi149, ↓b_l150, ↓b_j150, ↓b_wj150, ↓b_l151, ↓b_i151, ↓b_wi151, ↓b_l152, ↓b_j152, ↓b_wj152, ↓b_l153, ↓b_i153, ↓b_wi153, ↓b_l154, ↓b_i154, ↓b_wi154, ↓b_l155, ↓b_j155, ↓b_wj155, ↓b_l156, ↓b_j156, ↓b_wj156, ↓b_l138, ↓b_j138, ↓b_wj138, ↓b_a5, ↓b_a13, ↓b_a44, ↓b_lA, ↓b_aA_0, ↓b_aA_1, ↓b_iA_2, ↓b_wiA_2, ↓b_iA_4, ↓b_wiA_4, ↓b_iA_5, ↓b_wiA_5, ↓b_iA_6, ↓b_wiA_6, ↓b_jA_3, ↓b_wjA_3, ↓b_lT, ↓b_lTc, ↓b_aT, ↓b_iT, ↓b_wiT, ↓b_iTc, ↓b_wiTc, ↓b_lW, ↓b_lWc, ↓b_aW, ↓b_iW, ↓b_wiW, ↓b_jWc, ↓b_wjWc, ↓b_rt, ↓b_ru, ↓b_wt, ↓b_wu, ↓b_0l, ↓b_0, ↓b_1, ↓b_2, m_tk, ↓reduceIte, cond_true, cond_false, Option.bind_some, ↓b_iW _ (mW_m h6), ↓b_lW _ (mW_m h6), hc, nI_leI, hk, ↓bJ at1, ↓bI y1, nI_pos, l_100, nI_mul, nI_add, if_false, if_true]
theorem c_find {f : mF} {g : mG} {st : sTm} {ml : Nat → sTm} {N : Nat} (hd : 15 ≤ d) (h6 : self < 6) (hN : N ≤ 6) (hst : tv st.1 st.2) (hm : ∀ k, k < N → tv (ml k).1 (ml k).2) (hT : mX f (15 + 5 * self) n) (hc : f (17 + 5 * self) 1 = nI N) (hg : g (14 + 5 * self) 3 = cTh st) (hgm : ∀ k, k < N → g (18 + 5 * self) k = cTh (ml k)) (hp : pz (f (15 + 5 * self + 1)) n 60 0) : ∃ f' g' u' r, am_Y d 35 [.ref 133, .int (nI self)] (mM xs f g t u c s) = some (.inl (some (.int r)), mM xs f' g' t u' c s) ∧ fE (m_u f 133 2 (nI self)) f' ∧ gE g g' ∧ fiR self (fi (f (15 + 5 * self + 1)) n self st ml N 0) r f' g' u' := by
  obtain ⟨d, rfl⟩ : ∃ e, d = e + 1 := ⟨d - 1, by omega⟩
  have w1 : m_u f 133 2 (nI self) (15 + 5 * self + 1) = f (15 + 5 * self + 1) := m_uf (by omega)
  obtain ⟨f', g', u', r, z1, z2, z3, z4⟩ := c_findL (xs := xs) (t := t) (c := c) (s := s) (show 14 ≤ d by omega) h6 hN hst hm N 0 (f := m_u f 133 2 (nI self)) (g := g) (u := u) (by omega) (by
        obtain ⟨q1, q2, q3, q4, q5⟩ := hT
        exact ⟨q1, q2, by rw [m_un (by omega)]; exact q3, q4, fun k hk => by rw [m_un (by omega)]; exact q5 k hk⟩) (m_uu _) (by rw [m_un (by omega)]; exact hc) hg hgm (by rw [w1]; exact hp)
  rw [w1] at z4
  refine ⟨f', g', u', r, ?_, z2, z3, z4⟩
  rw [← z1]
  simp (maxSteps := 4000000) (disch := first | omega | assumption) only [↓b_ix, ↓b_l3, ↓b_a3_0, ↓b_a3_1, ↓b_a3_2, ↓b_l4, ↓b_a4_0, ↓b_a4_1, ↓b_a4_2, ↓b_a4_3, ↓b_l129, ↓b_a129_0, ↓b_l130, ↓b_i130_1, ↓b_wi130_1, ↓b_l133, ↓b_a133_0, ↓b_a133_1, ↓b_i133_2, ↓b_wi133_2, ↓b_j133_3, ↓b_wj133_3, ↓b_i133_4, ↓b_wi133_4, ↓b_l134, ↓b_a134_0, ↓b_a134_1, ↓b_i134_2, ↓b_wi134_2, ↓b_i134_3, ↓b_wi134_3, ↓b_l135, ↓b_i135_1, ↓b_wi135_1, ↓b_l139, ↓b_a139_0, ↓b_a139_1, ↓b_a139_2, ↓b_a139_3, ↓b_a139_4, ↓b_a139_5, ↓b_a139_6, ↓b_a139_7, ↓b_a139_8, ↓b_a139_9, ↓b_a139_10, ↓b_a139_11, ↓b_a139_12, ↓b_a139_13, ↓b_a139_14, ↓b_i139_15, ↓b_wi139_15, ↓b_i139_16, ↓b_wi139_16, ↓b_i139_17, ↓b_wi139_17, ↓b_a139_18, ↓b_i139_19, ↓b_wi139_19, ↓b_i139_20, ↓b_wi139_20, ↓b_i139_21, ↓b_wi139_21, ↓b_l6, ↓b_i6, ↓b_wi6, ↓b_l140, ↓b_i140, ↓b_wi140, ↓b_l141, ↓b_i141, ↓b_wi141, ↓b_l142, ↓b_i142, ↓b_wi142, ↓b_l143, ↓b_i143, ↓b_wi143, ↓b_l144, ↓b_j144, ↓b_wj144, ↓b_l145, ↓b_j145, ↓b_wj145, ↓b_l146, ↓b_i146, ↓b_wi146, ↓b_l147, ↓b_i147, ↓b_wi147, ↓b_l148, ↓b_i148, ↓b_wi148, ↓b_l149, ↓b_i149, ↓b_wi149, ↓b_l150, ↓b_j150, ↓b_wj150, ↓b_l151, ↓b_i151, ↓b_wi151, ↓b_l152, ↓b_j152, ↓b_wj152, ↓b_l153, ↓b_i153, ↓b_wi153, ↓b_l154, ↓b_i154, ↓b_wi154, ↓b_l155, ↓b_j155, ↓b_wj155, ↓b_l156, ↓b_j156, ↓b_wj156, ↓b_l138, ↓b_j138, ↓b_wj138, ↓b_a5, ↓b_a13, ↓b_a44, ↓b_lA, ↓b_aA_0, ↓b_aA_1, ↓b_iA_2, ↓b_wiA_2, ↓b_iA_4, ↓b_wiA_4, ↓b_iA_5, ↓b_wiA_5, ↓b_iA_6, ↓b_wiA_6, ↓b_jA_3, ↓b_wjA_3, ↓b_lT, ↓b_lTc, ↓b_aT, ↓b_iT, ↓b_wiT, ↓b_iTc, ↓b_wiTc, ↓b_lW, ↓b_lWc, ↓b_aW, ↓b_iW, ↓b_wiW, ↓b_jWc, ↓b_wjWc, ↓b_rt, ↓b_ru, ↓b_wt, ↓b_wu, ↓b_0l, ↓b_0, ↓b_1, ↓b_2, m_tk, ↓reduceIte, cond_true, cond_false, Option.bind_some, y_Stepper_find, e_Stepper_find_0, e_Stepper_find_52, e_Stepper_find_58]
  rfl
end FO
