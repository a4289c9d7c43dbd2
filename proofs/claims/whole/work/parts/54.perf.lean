/-! THE CLASS PERFORMS A CLAUSE -/
def aE (w : Nat → Int32) (va : Nat → sTm) (self i : Nat) : Nat := if w i = 33 then (ev w va self 4 (ev w va self 4 (i + 1)).2).2 else if w i = 64 then i + 3 else if w i = 42 then i + 2 else (ev w va self 4 (i + 1)).2
def pP (w : Nat → Int32) (self : Nat) : Nat → Nat → sS2 → (Nat → sTm) → sTm → Nat × Nat × sS2 × sTm
  | 0, _, S, _, ns => (0, 0, S, ns)
  | m + 1, i, S, va, ns => if w i = 59 then (0, 0, S, ns) else if (pA w self S va ns i).1 = 0 then pP w self m (aE w va self i) (pA w self S va ns i).2.2.1 (pA w self S va ns i).2.2.2.1 (pA w self S va ns i).2.2.2.2 else ((pA w self S va ns i).1, (pA w self S va ns i).2.1, (pA w self S va ns i).2.2.1, (pA w self S va ns i).2.2.2.2)
def pPf (self : Nat) (r : Nat × Nat × sS2 × sTm) : sS2 := if r.1 = 0 then (r.2.2.1.1, bU r.2.2.1.2 0 self r.2.2.2) else pEnd r.2.2.1 self (if r.1 = 3 then r.2.1 else if r.1 = 1 then 2004 else 2002)
theorem pLink_1 {S : sS2} {x y k z : Nat} (h : z ≠ 4) : (pLink S x y).1 z k = S.1 z k := by
  unfold pLink; split
  · rfl
  · show aU (aU S.1 4 x _) 4 y _ z k = _
    rw [aU_n (.inl h), aU_n (.inl h)]
theorem pLink_2 {S : sS2} {x y : Nat} : (pLink S x y).2 = S.2 := by
  unfold pLink; split <;> rfl
theorem bd_mk {S : sS2} {p i : Nat} (hb : bd S.1) (hp : p < 3) : bd (mkA S.1 p i) := by
  refine bd_u (bd_u ?_ ⟨by omega, by omega, by omega, by omega, by omega, fun _ => hb.2.2.1 _ (by omega), by omega⟩) ⟨by omega, by omega, by omega, by omega, by omega, by omega, by omega⟩
  refine ⟨fun i hi => ?_, fun j hj => ?_, fun q hq => ?_, fun p hp => ?_⟩
  · rw [aCp_n (by omega), aCp_n (by omega), aCp_n (by omega), aCp_n (by omega)]; exact hb.1 i hi
  · rw [aCp_n (by omega)]; exact hb.2.1 j hj
  · rw [aCp_n (by omega)]; exact hb.2.2.1 q hq
  · rw [aCp_n (by omega)]; exact hb.2.2.2 p hp
theorem pMake_s {S : sS2} {p : Nat} {st : sTm} {q : Nat × sS2} (h : pMake S p st = some q) : ¬ S.1 0 p = 0 ∧ q.1 < 6 ∧ S.1 1 q.1 = 0 ∧ q.2 = (mkA S.1 p q.1, bU S.2 0 q.1 st) := by
  unfold pMake at h
  by_cases e0 : S.1 0 p = 0
  · rw [if_pos e0] at h; exact (nomatch h)
  · rw [if_neg e0] at h
    cases hf : fFree S.1 6 0 with
    | none => rw [hf] at h; exact (nomatch h)
    | some k =>
      rw [hf] at h
      have := fFree_s 6 0 k hf
      have hm2 := Option.some.inj h
      subst hm2
      exact ⟨e0, by show k < 6; omega, this.2.2, rfl⟩
def oOk (self : Nat) (o : sO) : Prop := bd o.2.2.1.1 ∧ o.2.2.1.1 1 self = 1 ∧ (∀ k, k < 6 → vV (o.2.2.2.1 k)) ∧ tv o.2.2.2.2.1 o.2.2.2.2.2 ∧ (o.1 = 3 → o.2.1 < 2013) ∧ (o.1 = 0 ∨ o.1 = 1 ∨ o.1 = 2 ∨ o.1 = 3)
section PF
variable {xs : List Int32} {t c s n d self : Nat}
theorem pA_ok {w : Nat → Int32} {S : sS2} {va : Nat → sTm} {ns : sTm} {i j : Nat} (h6 : self < 6) (hb : bd S.1) (hal : S.1 1 self = 1) (hV : ∀ k, k < 6 → vV (va k)) (hn : tv ns.1 ns.2) (h : ap w n i j) : oOk self (pA w self S va ns i) ∧ ((pA w self S va ns i).1 = 0 → aE w va self i = j) := by
  have base : ∀ code, code = 1 ∨ code = 2 → oOk self (code, 0, S, va, ns) := fun code hc => ⟨hb, hal, hV, hn, fun h3 => by simp only at h3; omega, by rcases hc with h | h <;> simp [h]⟩
  obtain ⟨hi, ⟨h33, m, a1, a2⟩ | ⟨hx, a1⟩ | ⟨h64, h2, h3, hv, rfl⟩ | ⟨h42, h2, h3, rfl⟩⟩ := h
  · unfold pA aE
    rw [if_pos h33, if_pos h33]
    obtain ⟨l1, l2, l3, l4⟩ := ev_all (va := va) h6 hV 4 a1
    by_cases b1 : (ev w va self 4 (i + 1)).1.1 < 9
    · rw [if_pos b1, l4 b1]
      obtain ⟨r1, r2, r3, r4⟩ := ev_all (va := va) h6 hV 4 a2
      by_cases b2 : (ev w va self 4 m).1.1 < 9
      · rw [if_pos b2]
        split
        · exact ⟨⟨bd_put hb _ _, by rw [pPut_a (by decide)]; exact hal, hV, hn, fun h => (nomatch (show (0 : Nat) = 3 from h)), .inl rfl⟩, fun _ => r4 b2⟩
        · exact ⟨base 1 (.inl rfl), fun h => (nomatch (show (1 : Nat) = 0 from h))⟩
      · rw [if_neg b2]
        have := vT_12 r1 b2
        exact ⟨base _ this.1, fun h => absurd h this.2.2⟩
    · rw [if_neg b1]
      have := vT_12 l1 b1
      exact ⟨base _ this.1, fun h => absurd h this.2.2⟩
  · have e33 : ¬ w i = 33 := by rcases hx with h | h | h <;> (rw [h]; decide)
    have e64 : ¬ w i = 64 := by rcases hx with h | h | h <;> (rw [h]; decide)
    have e42 : ¬ w i = 42 := by rcases hx with h | h | h <;> (rw [h]; decide)
    unfold pA aE
    rw [if_neg e33, if_neg e33, if_neg e64, if_neg e64, if_neg e42, if_neg e42]
    obtain ⟨l1, l2, l3, l4⟩ := ev_all (va := va) h6 hV 4 a1
    by_cases b1 : (ev w va self 4 (i + 1)).1.1 < 9
    · rw [if_pos b1]
      have tl := vT_9 l1 b1
      refine ⟨?_, fun _ => l4 b1⟩
      split
      · exact ⟨hb, hal, hV, tl, fun h => (nomatch (show (0 : Nat) = 3 from h)), .inl rfl⟩
      · split
        · exact ⟨hb, hal, hV, hn, fun _ => getD_lt tl (sN_pos _ tl.1), .inr (.inr (.inr rfl))⟩
        · split
          · rename_i hr
            exact ⟨bd_link hb h6 (isR_s tl hr).1, by rw [pLink_1 (by decide)]; exact hal, hV, hn, fun h => (nomatch (show (0 : Nat) = 3 from h)), .inl rfl⟩
          · exact base 1 (.inl rfl)
    · rw [if_neg b1]
      have := vT_12 l1 b1
      exact ⟨base _ this.1, fun h => absurd h this.2.2⟩
  · have e33 : ¬ w i = 33 := by rw [h64]; decide
    unfold pA aE
    rw [if_neg e33, if_neg e33, if_pos h64, if_pos h64]
    refine ⟨?_, fun _ => rfl⟩
    cases hm : pMake S (dg (w (i + 1))) (0, [999]) with
    | none => exact base 1 (.inl rfl)
    | some q =>
      obtain ⟨p1, p2, p3, p4⟩ := pMake_s hm
      obtain ⟨d1, d2, d3⟩ := isV_of3 h3
      have hq : bd q.2.1 := by rw [p4]; exact bd_mk hb d2
      refine ⟨bd_link hq h6 p2, ?_, vset_V hV (tv_0 (by omega)), hn, fun h => (nomatch (show (0 : Nat) = 3 from h)), .inl rfl⟩
      show (pLink q.2 self q.1).1 1 self = 1
      rw [pLink_1 (by decide), p4]
      show aU (aU (aCp S.1 _ q.1) 7 _ _) 1 q.1 1 1 self = 1
      by_cases e : self = q.1
      · rw [← e, aU_s]
      · rw [aU_n (.inr e), aU_n (.inl (by decide)), aCp_n (by omega)]; exact hal
  · have e33 : ¬ w i = 33 := by rw [h42]; decide
    have e64 : ¬ w i = 64 := by rw [h42]; decide
    unfold pA aE
    rw [if_neg e33, if_neg e33, if_neg e64, if_neg e64, if_pos h42, if_pos h42]
    refine ⟨⟨bd_u hb ⟨by omega, fun _ => by split <;> omega, by omega, by omega, by omega, by omega, by omega⟩, ?_, hV, hn, fun h => (nomatch (show (0 : Nat) = 3 from h)), .inl rfl⟩, fun _ => rfl⟩
    exact (aU_n (a := S.1) (x := 2) (k := self) (v := if w (i + 1) = 49 then 1 else 0) (y := 1) (j := self) (.inl (by decide))).trans hal
theorem c_act {f : mF} {g : mG} {va : Nat → sTm} {ns : sTm} {S : sS2} {i j : Nat} (hd : 13 ≤ d) (hc : cA f g S.1 S.2) (hb : bd S.1) (h6 : self < 6) (hal : S.1 1 self = 1) (hs3 : f 133 2 = nI self) (hs4 : f 134 2 = nI self) (hr : f 133 4 = -5000) (hn : g 133 3 = cTh ns) (hV : ∀ k, k < 6 → vV (va k)) (hT : mX f (15 + 5 * self) n) (h : ap (f (15 + 5 * self + 1)) n i j) : ∃ F' G', am_Y d 38 [.ref 133, .int (f (15 + 5 * self + 1) i)] (mM xs (m_u (m_u f 134 3 0) 135 1 (nP (i + 1))) (gva g va) t (15 + 5 * self) c s) = some (.inl none, mM xs F' G' t (15 + 5 * self) c s) ∧ aRR self j f g (pA (f (15 + 5 * self + 1)) self S va ns i) F' G' := by
  obtain ⟨d, rfl⟩ : ∃ e, d = e + 1 := ⟨d - 1, by omega⟩
  have h1 : 1 ≤ d := by omega
  obtain ⟨hi, ⟨h33, m, a1, a2⟩ | ⟨hx, a1⟩ | ⟨h64, h2, h3, hv, rfl⟩ | ⟨h42, h2, h3, rfl⟩⟩ := h
  · obtain ⟨F', G', y1, y2⟩ := c_act33 (xs := xs) (t := t) (c := c) (s := s) (show 12 ≤ d by omega) hc hb h6 hs3 hs4 hr hn hV hT h33 a1 a2
    refine ⟨F', G', ?_, y2⟩
    rw [h33]
    simp (maxSteps := 4000000) (disch := first | omega | assumption) only [↓b_ix, ↓b_l3, ↓b_a3_0, ↓b_a3_1, ↓b_a3_2, ↓b_l4, ↓b_a4_0, ↓b_a4_1, ↓b_a4_2, ↓b_a4_3, ↓b_l129, ↓b_a129_0, ↓b_l130, ↓b_i130_1, ↓b_wi130_1, ↓b_l133, ↓b_a133_0, ↓b_a133_1, ↓b_i133_2, ↓b_wi133_2, ↓b_j133_3, ↓b_wj133_3, ↓b_i133_4, ↓b_wi133_4, ↓b_l134, ↓b_a134_0, ↓b_a134_1, ↓b_i134_2, ↓b_wi134_2, ↓b_i134_3, ↓b_wi134_3, ↓b_l135, ↓b_i135_1, ↓b_wi135_1, ↓b_l139, ↓b_a139_0, ↓b_a139_1, ↓b_a139_2, ↓b_a139_3, ↓b_a139_4, ↓b_a139_5, ↓b_a139_6, ↓b_a139_7, ↓b_a139_8, ↓b_a139_9, ↓b_a139_10, ↓b_a139_11, ↓b_a139_12, ↓b_a139_13, ↓b_a139_14, ↓b_i139_15, ↓b_wi139_15, ↓b_i139_16, ↓b_wi139_16, ↓b_i139_17, ↓b_wi139_17, ↓b_a139_18, ↓b_i139_19, ↓b_wi139_19, ↓b_i139_20, ↓b_wi139_20, ↓b_i139_21, ↓b_wi139_21, ↓b_l6, ↓b_i6, ↓b_wi6, ↓b_l140, ↓b_i140, ↓b_wi140, ↓b_l141, ↓b_i141, ↓b_wi141, ↓b_l142, ↓b_i142, ↓b_wi142, ↓b_l143, ↓b_i143, ↓b_wi143, ↓b_l144, ↓b_j144, ↓b_wj144, ↓b_l145, ↓b_j145, ↓b_wj145, ↓b_l146, ↓b_i146, ↓b_wi146, ↓b_l147, ↓b_i147, ↓b_wi147, ↓b_l148, ↓b_i148, ↓b_wi148, ↓b_l149, ↓b_i149, ↓b_wi149, ↓b_l150, ↓b_j150, ↓b_wj150, ↓b_l151, ↓b_i151, ↓b_wi151, ↓b_l152, ↓b_j152, ↓b_wj152, ↓b_l153, ↓b_i153, ↓b_wi153, ↓b_l154, ↓b_i154, ↓b_wi154, ↓b_l155, ↓b_j155, ↓b_wj155, ↓b_l156, ↓b_j156, ↓b_wj156, ↓b_l138, ↓b_j138, ↓b_wj138, ↓b_a5, ↓b_a13, ↓b_a44, ↓b_lA, ↓b_aA_0, ↓b_aA_1, ↓b_iA_2, ↓b_wiA_2, ↓b_iA_4, ↓b_wiA_4, ↓b_iA_5, ↓b_wiA_5, ↓b_iA_6, ↓b_wiA_6, ↓b_jA_3, ↓b_wjA_3, ↓b_lT, ↓b_lTc, ↓b_aT, ↓b_iT, ↓b_wiT, ↓b_iTc, ↓b_wiTc, ↓b_lW, ↓b_lWc, ↓b_aW, ↓b_iW, ↓b_wiW, ↓b_jWc, ↓b_wjWc, ↓b_rt, ↓b_ru, ↓b_wt, ↓b_wu, ↓b_0l, ↓b_0, ↓b_1, ↓b_2, m_tk, ↓reduceIte, cond_true, cond_false, Option.bind_some, y_Stepper_act, e_Stepper_act_0, e_Stepper_act_13, e_Stepper_act_26, e_Stepper_act_63, e_Stepper_act_64, e_Stepper_act_70, e_Stepper_act_91, ↓bV y1, i_11, i_01, i_1_0, i_0_1, not_true, not_false_eq_true, if_true, if_false, Bool.true_eq_false, Bool.false_eq_true, decide_true, decide_false]
  · have e33 : ¬ f (15 + 5 * self + 1) i = 33 := by rcases hx with h | h | h <;> (rw [h]; decide)
    have e64 : ¬ f (15 + 5 * self + 1) i = 64 := by rcases hx with h | h | h <;> (rw [h]; decide)
    have e42 : ¬ f (15 + 5 * self + 1) i = 42 := by rcases hx with h | h | h <;> (rw [h]; decide)
    obtain ⟨l1, l2, l3, l4⟩ := ev_all (va := va) h6 hV 4 a1
    have ih1 := c_eval0 (xs := xs) (g := g) (t := t) (c := c) (s := s) (d := d) (e := 0) (by omega) hT hs4 h6 hV a1
    unfold pA
    rw [if_neg e33, if_neg e64, if_neg e42]
    by_cases b1 : (ev (f (15 + 5 * self + 1)) va self 4 (i + 1)).1.1 < 9
    · rw [trO_9 b1, l4 b1] at ih1
      rw [if_pos b1]
      obtain ⟨F', G', y1, y2⟩ := c_use (xs := xs) (t := t) (c := c) (s := s) (va := va) (i := i) (j := j) (show 2 ≤ d by omega) hc hb h6 hs3 hs4 hr hn (vT_9 l1 b1) hx
      refine ⟨F', G', ?_, y2⟩
      simp (maxSteps := 4000000) (disch := first | omega | assumption) only [↓b_ix, ↓b_l3, ↓b_a3_0, ↓b_a3_1, ↓b_a3_2, ↓b_l4, ↓b_a4_0, ↓b_a4_1, ↓b_a4_2, ↓b_a4_3, ↓b_l129, ↓b_a129_0, ↓b_l130, ↓b_i130_1, ↓b_wi130_1, ↓b_l133, ↓b_a133_0, ↓b_a133_1, ↓b_i133_2, ↓b_wi133_2, ↓b_j133_3, ↓b_wj133_3, ↓b_i133_4, ↓b_wi133_4, ↓b_l134, ↓b_a134_0, ↓b_a134_1, ↓b_i134_2, ↓b_wi134_2, ↓b_i134_3, ↓b_wi134_3, ↓b_l135, ↓b_i135_1, ↓b_wi135_1, ↓b_l139, ↓b_a139_0, ↓b_a139_1, ↓b_a139_2, ↓b_a139_3, ↓b_a139_4, ↓b_a139_5, ↓b_a139_6, ↓b_a139_7, ↓b_a139_8, ↓b_a139_9, ↓b_a139_10, ↓b_a139_11, ↓b_a139_12, ↓b_a139_13, ↓b_a139_14, ↓b_i139_15, ↓b_wi139_15, ↓b_i139_16, ↓b_wi139_16, ↓b_i139_17, ↓b_wi139_17, ↓b_a139_18, ↓b_i139_19, ↓b_wi139_19, ↓b_i139_20, ↓b_wi139_20, ↓b_i139_21, ↓b_wi139_21, ↓b_l6, ↓b_i6, ↓b_wi6, ↓b_l140, ↓b_i140, ↓b_wi140, ↓b_l141, ↓b_i141, ↓b_wi141, ↓b_l142, ↓b_i142, ↓b_wi142, ↓b_l143, ↓b_i143, ↓b_wi143, ↓b_l144, ↓b_j144, ↓b_wj144, ↓b_l145, ↓b_j145, ↓b_wj145, ↓b_l146, ↓b_i146, ↓b_wi146, ↓b_l147, ↓b_i147, ↓b_wi147, ↓b_l148, ↓b_i148, ↓b_wi148, ↓b_l149, ↓b_i149, ↓b_wi149, ↓b_l150, ↓b_j150, ↓b_wj150, ↓b_l151, ↓b_i151, ↓b_wi151, ↓b_l152, ↓b_j152, ↓b_wj152, ↓b_l153, ↓b_i153, ↓b_wi153, ↓b_l154, ↓b_i154, ↓b_wi154, ↓b_l155, ↓b_j155, ↓b_wj155, ↓b_l156, ↓b_j156, ↓b_wj156, ↓b_l138, ↓b_j138, ↓b_wj138, ↓b_a5, ↓b_a13, ↓b_a44, ↓b_lA, ↓b_aA_0, ↓b_aA_1, ↓b_iA_2, ↓b_wiA_2, ↓b_iA_4, ↓b_wiA_4, ↓b_iA_5, ↓b_wiA_5, ↓b_iA_6, ↓b_wiA_6, ↓b_jA_3, ↓b_wjA_3, ↓b_lT, ↓b_lTc, ↓b_aT, ↓b_iT, ↓b_wiT, ↓b_iTc, ↓b_wiTc, ↓b_lW, ↓b_lWc, ↓b_aW, ↓b_iW, ↓b_wiW, ↓b_jWc, ↓b_wjWc, ↓b_rt, ↓b_ru, ↓b_wt, ↓b_wu, ↓b_0l, ↓b_0, ↓b_1, ↓b_2, m_tk, ↓reduceIte, cond_true, cond_false, Option.bind_some, y_Stepper_act, e_Stepper_act_0, e_Stepper_act_13, e_Stepper_act_26, e_Stepper_act_63, e_Stepper_act_64, e_Stepper_act_70, e_Stepper_act_91, e33, e64, e42, ↓bJ ih1, cTh_0 l1, b1, ↓bV y1, i_11, i_01, i_1_0, i_0_1, not_true, not_false_eq_true, if_true, if_false, Bool.true_eq_false, Bool.false_eq_true, decide_true, decide_false]
    · rw [if_neg b1]
      rw [trO_n b1] at ih1
      have h3 := vT_12 l1 b1
      refine ⟨_, _, ?_, aR_i (e := (ev (f (15 + 5 * self + 1)) va self 4 (i + 1)).1.1 - 10) (p := (ev (f (15 + 5 * self + 1)) va self 4 (i + 1)).2) h6 hs3 hs4 hr hn (cA_F hc) (fun x k hx => rfl) (fun x k hx => rfl) rfl h3.2.1 (fun hh => absurd hh h3.2.2) rfl⟩
      simp (maxSteps := 4000000) (disch := first | omega | assumption) only [↓b_ix, ↓b_l3, ↓b_a3_0, ↓b_a3_1, ↓b_a3_2, ↓b_l4, ↓b_a4_0, ↓b_a4_1, ↓b_a4_2, ↓b_a4_3, ↓b_l129, ↓b_a129_0, ↓b_l130, ↓b_i130_1, ↓b_wi130_1, ↓b_l133, ↓b_a133_0, ↓b_a133_1, ↓b_i133_2, ↓b_wi133_2, ↓b_j133_3, ↓b_wj133_3, ↓b_i133_4, ↓b_wi133_4, ↓b_l134, ↓b_a134_0, ↓b_a134_1, ↓b_i134_2, ↓b_wi134_2, ↓b_i134_3, ↓b_wi134_3, ↓b_l135, ↓b_i135_1, ↓b_wi135_1, ↓b_l139, ↓b_a139_0, ↓b_a139_1, ↓b_a139_2, ↓b_a139_3, ↓b_a139_4, ↓b_a139_5, ↓b_a139_6, ↓b_a139_7, ↓b_a139_8, ↓b_a139_9, ↓b_a139_10, ↓b_a139_11, ↓b_a139_12, ↓b_a139_13, ↓b_a139_14, ↓b_i139_15, ↓b_wi139_15, ↓b_i139_16, ↓b_wi139_16, ↓b_i139_17, ↓b_wi139_17, ↓b_a139_18, ↓b_i139_19, ↓b_wi139_19, ↓b_i139_20, ↓b_wi139_20, ↓b_i139_21, ↓b_wi139_21, ↓b_l6, ↓b_i6, ↓b_wi6, ↓b_l140, ↓b_i140, ↓b_wi140, ↓b_l141, ↓b_i141, ↓b_wi141, ↓b_l142, ↓b_i142, ↓b_wi142, ↓b_l143, ↓b_i143, ↓b_wi143, ↓b_l144, ↓b_j144, ↓b_wj144, ↓b_l145, ↓b_j145, ↓b_wj145, ↓b_l146, ↓b_i146, ↓b_wi146, ↓b_l147, ↓b_i147, ↓b_wi147, ↓b_l148, ↓b_i148, ↓b_wi148, ↓b_l149, ↓b_i149, ↓b_wi149, ↓b_l150, ↓b_j150, ↓b_wj150, ↓b_l151, ↓b_i151, ↓b_wi151, ↓b_l152, ↓b_j152, ↓b_wj152, ↓b_l153, ↓b_i153, ↓b_wi153, ↓b_l154, ↓b_i154, ↓b_wi154, ↓b_l155, ↓b_j155, ↓b_wj155, ↓b_l156, ↓b_j156, ↓b_wj156, ↓b_l138, ↓b_j138, ↓b_wj138, ↓b_a5, ↓b_a13, ↓b_a44, ↓b_lA, ↓b_aA_0, ↓b_aA_1, ↓b_iA_2, ↓b_wiA_2, ↓b_iA_4, ↓b_wiA_4, ↓b_iA_5, ↓b_wiA_5, ↓b_iA_6, ↓b_wiA_6, ↓b_jA_3, ↓b_wjA_3, ↓b_lT, ↓b_lTc, ↓b_aT, ↓b_iT, ↓b_wiT, ↓b_iTc, ↓b_wiTc, ↓b_lW, ↓b_lWc, ↓b_aW, ↓b_iW, ↓b_wiW, ↓b_jWc, ↓b_wjWc, ↓b_rt, ↓b_ru, ↓b_wt, ↓b_wu, ↓b_0l, ↓b_0, ↓b_1, ↓b_2, m_tk, ↓reduceIte, cond_true, cond_false, Option.bind_some, y_Stepper_act, e_Stepper_act_0, e_Stepper_act_13, e_Stepper_act_26, e_Stepper_act_63, e_Stepper_act_64, e_Stepper_act_70, e_Stepper_act_91, e33, e64, e42, ↓bJ ih1, cTh_0 l1, b1, i_11, i_01, i_1_0, i_0_1, not_true, not_false_eq_true, if_true, if_false, Bool.true_eq_false, Bool.false_eq_true, decide_true, decide_false]
  · obtain ⟨F', G', y1, y2⟩ := c_act64 (xs := xs) (t := t) (c := c) (s := s) (va := va) (show 5 ≤ d by omega) hc hb h6 hal hs3 hs4 hr hn hT h64 h2 h3 hv rfl
    refine ⟨F', G', ?_, y2⟩
    rw [h64]
    simp (maxSteps := 4000000) (disch := first | omega | assumption) only [↓b_ix, ↓b_l3, ↓b_a3_0, ↓b_a3_1, ↓b_a3_2, ↓b_l4, ↓b_a4_0, ↓b_a4_1, ↓b_a4_2, ↓b_a4_3, ↓b_l129, ↓b_a129_0, ↓b_l130, ↓b_i130_1, ↓b_wi130_1, ↓b_l133, ↓b_a133_0, ↓b_a133_1, ↓b_i133_2, ↓b_wi133_2, ↓b_j133_3, ↓b_wj133_3, ↓b_i133_4, ↓b_wi133_4, ↓b_l134, ↓b_a134_0, ↓b_a134_1, ↓b_i134_2, ↓b_wi134_2, ↓b_i134_3, ↓b_wi134_3, ↓b_l135, ↓b_i135_1, ↓b_wi135_1, ↓b_l139, ↓b_a139_0, ↓b_a139_1, ↓b_a139_2, ↓b_a139_3, ↓b_a139_4, ↓b_a139_5, ↓b_a139_6, ↓b_a139_7, ↓b_a139_8, ↓b_a139_9, ↓b_a139_10, ↓b_a139_11, ↓b_a139_12, ↓b_a139_13, ↓b_a139_14, ↓b_i139_15, ↓b_wi139_15, ↓b_i139_16, ↓b_wi139_16, ↓b_i139_17, ↓b_wi139_17, ↓b_a139_18, ↓b_i139_19, ↓b_wi139_19, ↓b_i139_20, ↓b_wi139_20, ↓b_i139_21, ↓b_wi139_21, ↓b_l6, ↓b_i6, ↓b_wi6, ↓b_l140, ↓b_i140, ↓b_wi140, ↓b_l141, ↓b_i141, ↓b_wi141, ↓b_l142, ↓b_i142, ↓b_wi142, ↓b_l143, ↓b_i143, ↓b_wi143, ↓b_l144, ↓b_j144, ↓b_wj144, ↓b_l145, ↓b_j145, ↓b_wj145, ↓b_l146, ↓b_i146, ↓b_wi146, ↓b_l147, ↓b_i147, ↓b_wi147, ↓b_l148, ↓b_i148, ↓b_wi148, ↓b_l149, ↓b_i149, ↓b_wi149, ↓b_l150, ↓b_j150, ↓b_wj150, ↓b_l151, ↓b_i151, ↓b_wi151, ↓b_l152, ↓b_j152, ↓b_wj152, ↓b_l153, ↓b_i153, ↓b_wi153, ↓b_l154, ↓b_i154, ↓b_wi154, ↓b_l155, ↓b_j155, ↓b_wj155, ↓b_l156, ↓b_j156, ↓b_wj156, ↓b_l138, ↓b_j138, ↓b_wj138, ↓b_a5, ↓b_a13, ↓b_a44, ↓b_lA, ↓b_aA_0, ↓b_aA_1, ↓b_iA_2, ↓b_wiA_2, ↓b_iA_4, ↓b_wiA_4, ↓b_iA_5, ↓b_wiA_5, ↓b_iA_6, ↓b_wiA_6, ↓b_jA_3, ↓b_wjA_3, ↓b_lT, ↓b_lTc, ↓b_aT, ↓b_iT, ↓b_wiT, ↓b_iTc, ↓b_wiTc, ↓b_lW, ↓b_lWc, ↓b_aW, ↓b_iW, ↓b_wiW, ↓b_jWc, ↓b_wjWc, ↓b_rt, ↓b_ru, ↓b_wt, ↓b_wu, ↓b_0l, ↓b_0, ↓b_1, ↓b_2, m_tk, ↓reduceIte, cond_true, cond_false, Option.bind_some, y_Stepper_act, e_Stepper_act_0, e_Stepper_act_13, e_Stepper_act_26, e_Stepper_act_63, e_Stepper_act_64, e_Stepper_act_70, e_Stepper_act_91, show ¬ (64 : Int32) = 33 by decide, ↓bV y1, i_11, i_01, i_1_0, i_0_1, not_true, not_false_eq_true, if_true, if_false, Bool.true_eq_false, Bool.false_eq_true, decide_true, decide_false]
  · have hw := mX_w (v := 0) hT
    have n1 := c_next2 (xs := xs) (g := gva g va) (t := t) (c := c) (s := s) (i := i + 1) h1 (mX_u (v := 0) hT)
    rw [hw, show px (f (15 + 5 * self + 1)) n (i + 1) = f (15 + 5 * self + 1) (i + 1) from if_pos (by omega), if_pos (by omega)] at n1
    have s2 : m_u (m_u f 134 3 0) 135 1 (nP (i + 1)) 133 2 = nI self := by rw [m_un (by omega), m_un (by omega)]; exact hs3
    unfold pA
    rw [if_neg (by rw [h42]; decide), if_neg (by rw [h42]; decide), if_pos h42]
    have hcF : cA (m_u (m_u f 134 3 0) 135 1 (nP (i + 1 + 1))) (gva g va) S.1 S.2 := cA_F hc
    have fin : ∀ v, v = (if f (15 + 5 * self + 1) (i + 1) = 49 then 1 else 0) → aRR self (i + 2) f g (0, 0, (aU S.1 2 self (if f (15 + 5 * self + 1) (i + 1) = 49 then 1 else 0), S.2), va, ns) (m_u (m_u (m_u f 134 3 0) 135 1 (nP (i + 1 + 1))) (14 + 5 * self) 4 (nI v)) (gva g va) := by
      intro v hv
      rw [← hv]
      exact aR_i (e := 0) (p := i + 1 + 1) h6 hs3 hs4 hr hn (cA_tr hcF h6) (fun x k hx => by rw [m_un (by omega)]; rfl) (fun x k hx => rfl) rfl (show ¬ (0 : Nat) = 3 by decide) (fun _ => rfl) rfl
    by_cases h9 : f (15 + 5 * self + 1) (i + 1) = 49
    · refine ⟨_, _, ?_, fin 1 (by rw [if_pos h9])⟩
      rw [h42, show nI 1 = 1 from rfl]
      simp (maxSteps := 4000000) (disch := first | omega | assumption) only [↓b_ix, ↓b_l3, ↓b_a3_0, ↓b_a3_1, ↓b_a3_2, ↓b_l4, ↓b_a4_0, ↓b_a4_1, ↓b_a4_2, ↓b_a4_3, ↓b_l129, ↓b_a129_0, ↓b_l130, ↓b_i130_1, ↓b_wi130_1, ↓b_l133, ↓b_a133_0, ↓b_a133_1, ↓b_i133_2, ↓b_wi133_2, ↓b_j133_3, ↓b_wj133_3, ↓b_i133_4, ↓b_wi133_4, ↓b_l134, ↓b_a134_0, ↓b_a134_1, ↓b_i134_2, ↓b_wi134_2, ↓b_i134_3, ↓b_wi134_3, ↓b_l135, ↓b_i135_1, ↓b_wi135_1, ↓b_l139, ↓b_a139_0, ↓b_a139_1, ↓b_a139_2, ↓b_a139_3, ↓b_a139_4, ↓b_a139_5, ↓b_a139_6, ↓b_a139_7, ↓b_a139_8, ↓b_a139_9, ↓b_a139_10, ↓b_a139_11, ↓b_a139_12, ↓b_a139_13, ↓b_a139_14, ↓b_i139_15, ↓b_wi139_15, ↓b_i139_16, ↓b_wi139_16, ↓b_i139_17, ↓b_wi139_17, ↓b_a139_18, ↓b_i139_19, ↓b_wi139_19, ↓b_i139_20, ↓b_wi139_20, ↓b_i139_21, ↓b_wi139_21, ↓b_l6, ↓b_i6, ↓b_wi6, ↓b_l140, ↓b_i140, ↓b_wi140, ↓b_l141, ↓b_i141, ↓b_wi141, ↓b_l142, ↓b_i142, ↓b_wi142, ↓b_l143, ↓b_i143, ↓b_wi143, ↓b_l144, ↓b_j144, ↓b_wj144, ↓b_l145, ↓b_j145, ↓b_wj145, ↓b_l146, ↓b_i146, ↓b_wi146, ↓b_l147, ↓b_i147, ↓b_wi147, ↓b_l148, ↓b_i148, ↓b_wi148, ↓b_l149, ↓b_i149, ↓b_wi149, ↓b_l150, ↓b_j150, ↓b_wj150, ↓b_l151, ↓b_i151, ↓b_wi151, ↓b_l152, ↓b_j152, ↓b_wj152, ↓b_l153, ↓b_i153, ↓b_wi153, ↓b_l154, ↓b_i154, ↓b_wi154, ↓b_l155, ↓b_j155, ↓b_wj155, ↓b_l156, ↓b_j156, ↓b_wj156, ↓b_l138, ↓b_j138, ↓b_wj138, ↓b_a5, ↓b_a13, ↓b_a44, ↓b_lA, ↓b_aA_0, ↓b_aA_1, ↓b_iA_2, ↓b_wiA_2, ↓b_iA_4, ↓b_wiA_4, ↓b_iA_5, ↓b_wiA_5, ↓b_iA_6, ↓b_wiA_6, ↓b_jA_3, ↓b_wjA_3, ↓b_lT, ↓b_lTc, ↓b_aT, ↓b_iT, ↓b_wiT, ↓b_iTc, ↓b_wiTc, ↓b_lW, ↓b_lWc, ↓b_aW, ↓b_iW, ↓b_wiW, ↓b_jWc, ↓b_wjWc, ↓b_rt, ↓b_ru, ↓b_wt, ↓b_wu, ↓b_0l, ↓b_0, ↓b_1, ↓b_2, m_tk, ↓reduceIte, cond_true, cond_false, Option.bind_some, y_Stepper_act, e_Stepper_act_0, e_Stepper_act_13, e_Stepper_act_26, e_Stepper_act_63, e_Stepper_act_64, e_Stepper_act_70, e_Stepper_act_91, show ¬ (42 : Int32) = 33 by decide, show ¬ (42 : Int32) = 64 by decide, s2, ↓bI n1, h9, ft3_1, i_11, i_01, i_1_0, i_0_1, not_true, not_false_eq_true, if_true, if_false, Bool.true_eq_false, Bool.false_eq_true, decide_true, decide_false]
    · refine ⟨_, _, ?_, fin 0 (by rw [if_neg h9])⟩
      rw [h42, show nI 0 = 0 from rfl]
      simp (maxSteps := 4000000) (disch := first | omega | assumption) only [↓b_ix, ↓b_l3, ↓b_a3_0, ↓b_a3_1, ↓b_a3_2, ↓b_l4, ↓b_a4_0, ↓b_a4_1, ↓b_a4_2, ↓b_a4_3, ↓b_l129, ↓b_a129_0, ↓b_l130, ↓b_i130_1, ↓b_wi130_1, ↓b_l133, ↓b_a133_0, ↓b_a133_1, ↓b_i133_2, ↓b_wi133_2, ↓b_j133_3, ↓b_wj133_3, ↓b_i133_4, ↓b_wi133_4, ↓b_l134, ↓b_a134_0, ↓b_a134_1, ↓b_i134_2, ↓b_wi134_2, ↓b_i134_3, ↓b_wi134_3, ↓b_l135, ↓b_i135_1, ↓b_wi135_1, ↓b_l139, ↓b_a139_0, ↓b_a139_1, ↓b_a139_2, ↓b_a139_3, ↓b_a139_4, ↓b_a139_5, ↓b_a139_6, ↓b_a139_7, ↓b_a139_8, ↓b_a139_9, ↓b_a139_10, ↓b_a139_11, ↓b_a139_12, ↓b_a139_13, ↓b_a139_14, ↓b_i139_15, ↓b_wi139_15, ↓b_i139_16, ↓b_wi139_16, ↓b_i139_17, ↓b_wi139_17, ↓b_a139_18, ↓b_i139_19, ↓b_wi139_19, ↓b_i139_20, ↓b_wi139_20, ↓b_i139_21, ↓b_wi139_21, ↓b_l6, ↓b_i6, ↓b_wi6, ↓b_l140, ↓b_i140, ↓b_wi140, ↓b_l141, ↓b_i141, ↓b_wi141, ↓b_l142, ↓b_i142, ↓b_wi142, ↓b_l143, ↓b_i143, ↓b_wi143, ↓b_l144, ↓b_j144, ↓b_wj144, ↓b_l145, ↓b_j145, ↓b_wj145, ↓b_l146, ↓b_i146, ↓b_wi146, ↓b_l147, ↓b_i147, ↓b_wi147, ↓b_l148, ↓b_i148, ↓b_wi148, ↓b_l149, ↓b_i149, ↓b_wi149, ↓b_l150, ↓b_j150, ↓b_wj150, ↓b_l151, ↓b_i151, ↓b_wi151, ↓b_l152, ↓b_j152, ↓b_wj152, ↓b_l153, ↓b_i153, ↓b_wi153, ↓b_l154, ↓b_i154, ↓b_wi154, ↓b_l155, ↓b_j155, ↓b_wj155, ↓b_l156, ↓b_j156, ↓b_wj156, ↓b_l138, ↓b_j138, ↓b_wj138, ↓b_a5, ↓b_a13, ↓b_a44, ↓b_lA, ↓b_aA_0, ↓b_aA_1, ↓b_iA_2, ↓b_wiA_2, ↓b_iA_4, ↓b_wiA_4, ↓b_iA_5, ↓b_wiA_5, ↓b_iA_6, ↓b_wiA_6, ↓b_jA_3, ↓b_wjA_3, ↓b_lT, ↓b_lTc, ↓b_aT, ↓b_iT, ↓b_wiT, ↓b_iTc, ↓b_wiTc, ↓b_lW, ↓b_lWc, ↓b_aW, ↓b_iW, ↓b_wiW, ↓b_jWc, ↓b_wjWc, ↓b_rt, ↓b_ru, ↓b_wt, ↓b_wu, ↓b_0l, ↓b_0, ↓b_1, ↓b_2, m_tk, ↓reduceIte, cond_true, cond_false, Option.bind_some, y_Stepper_act, e_Stepper_act_0, e_Stepper_act_13, e_Stepper_act_26, e_Stepper_act_63, e_Stepper_act_64, e_Stepper_act_70, e_Stepper_act_91, show ¬ (42 : Int32) = 33 by decide, show ¬ (42 : Int32) = 64 by decide, s2, ↓bI n1, h9, ft3_0, i_11, i_01, i_1_0, i_0_1, not_true, not_false_eq_true, if_true, if_false, Bool.true_eq_false, Bool.false_eq_true, decide_true, decide_false]
theorem F_form {F : mF} {e p : Int32} (h1 : F 134 3 = e) (h2 : F 135 1 = p) : m_u (m_u F 134 3 e) 135 1 p = F := by
  rw [m_us h1.symm, m_us h2.symm]
theorem G_form {G : mG} {va : Nat → sTm} (h : ∀ k, k < 6 → G 138 k = cTh (va k)) : gva G va = G := by
  funext x k; unfold gva
  by_cases e : x = 138 ∧ k < 6
  · rw [if_pos e, e.1, h k e.2]
  · rw [if_neg e]
theorem tolA_t {a : Nat} (h : a < 2013) : ¬ told a = -5000 := by
  have : ∀ a, a < 2013 → ¬ told a = -5000 := by decide +kernel
  exact this a h
end PF
