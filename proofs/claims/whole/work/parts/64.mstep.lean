/-! THE MODEL STEPS -/
theorem pA_wf {w : Nat → Int32} {n self i j : Nat} {S : sS2} {va : Nat → sTm} {ns : sTm} (h6 : self < 6) (hwf : wf S) (hal : S.1 1 self = 1) (hV : ∀ k, k < 6 → vV (va k)) (hta : tA S self n w) (h : ap w n i j) : wf (pA w self S va ns i).2.2.1 ∧ tA (pA w self S va ns i).2.2.1 self n w := by
  obtain ⟨hi, ⟨h33, m, a1, a2⟩ | ⟨hx, a1⟩ | ⟨h64, h2, h3, hv, rfl⟩ | ⟨h42, h2, h3, rfl⟩⟩ := h
  · unfold pA
    rw [if_pos h33]
    obtain ⟨l1, l2, l3, l4⟩ := ev_all (va := va) h6 hV 4 a1
    by_cases b1 : (ev w va self 4 (i + 1)).1.1 < 9
    · rw [if_pos b1, l4 b1]
      obtain ⟨r1, r2, r3, r4⟩ := ev_all (va := va) h6 hV 4 a2
      by_cases b2 : (ev w va self 4 m).1.1 < 9
      · rw [if_pos b2]
        split
        · rename_i hh
          have q := isR_s (vT_9 l1 b1) hh.1
          exact ⟨wf_put hwf (.inl (vT_9 r1 b2)) (by omega), tA_put hta⟩
        · exact ⟨hwf, hta⟩
      · rw [if_neg b2]; exact ⟨hwf, hta⟩
    · rw [if_neg b1]; exact ⟨hwf, hta⟩
  · have e33 : ¬ w i = 33 := by rcases hx with h | h | h <;> (rw [h]; decide)
    have e64 : ¬ w i = 64 := by rcases hx with h | h | h <;> (rw [h]; decide)
    have e42 : ¬ w i = 42 := by rcases hx with h | h | h <;> (rw [h]; decide)
    unfold pA
    rw [if_neg e33, if_neg e64, if_neg e42]
    obtain ⟨l1, l2, l3, l4⟩ := ev_all (va := va) h6 hV 4 a1
    by_cases b1 : (ev w va self 4 (i + 1)).1.1 < 9
    · rw [if_pos b1]
      split
      · exact ⟨hwf, hta⟩
      · split
        · exact ⟨hwf, hta⟩
        · split
          · rename_i hr
            exact ⟨wf_link hwf h6 (isR_s (vT_9 l1 b1) hr).1, tA_lk hta⟩
          · exact ⟨hwf, hta⟩
    · rw [if_neg b1]; exact ⟨hwf, hta⟩
  · have e33 : ¬ w i = 33 := by rw [h64]; decide
    unfold pA
    rw [if_neg e33, if_pos h64]
    cases hm : pMake S (dg (w (i + 1))) (0, [999]) with
    | none => exact ⟨hwf, hta⟩
    | some q =>
      obtain ⟨p1, p2, p3, p4⟩ := pMake_s hm
      obtain ⟨d1, d2, d3⟩ := isV_of3 h3
      have hne : ¬ self = q.1 := fun e => by rw [← e, hal] at p3; exact absurd p3 (by decide)
      have w1 : wf q.2 := by rw [p4]; exact wf_mk p2 d2 p1 p3 (tv_0 (by decide)) hwf
      have t1 : tA q.2 self n w := by rw [p4]; exact tA_mk hta hne
      exact ⟨wf_link w1 h6 p2, tA_lk t1⟩
  · have e33 : ¬ w i = 33 := by rw [h42]; decide
    have e64 : ¬ w i = 64 := by rw [h42]; decide
    unfold pA
    rw [if_neg e33, if_neg e64, if_pos h42]
    refine ⟨wf_tr h6 hal (by split <;> omega) hwf, tA_e hta ?_ (fun k => ?_)⟩
    · exact aU_n (a := S.1) (x := 2) (k := self) (v := if w (i + 1) = 49 then 1 else 0) (y := 7) (.inl (by decide))
    · exact aU_n (a := S.1) (x := 2) (k := self) (v := if w (i + 1) = 49 then 1 else 0) (y := 13 + self) (by omega)
theorem pEnd1_a {S : sS2} {m i why o y k : Nat} (h4 : y ≠ 4) (h6 : y ≠ 6) : (pEnd1 m i why o S).1 y k = S.1 y k := by
  unfold pEnd1; split
  · rfl
  · exact (aU_n (.inl h4)).trans (pPut_a h6)
theorem pEndL_a {m i why y k : Nat} (h4 : y ≠ 4) (h6 : y ≠ 6) : ∀ q o {S : sS2}, (pEndL m i why q o S).1 y k = S.1 y k
  | 0, _, _ => rfl
  | q + 1, o, S => (pEndL_a h4 h6 q (o + 1)).trans (pEnd1_a h4 h6)
theorem pEnd_st {S : sS2} {i why : Nat} : (pEnd S i why).1 1 i = 2 := by
  unfold pEnd
  rw [pEndL_a (by decide) (by decide)]
  show aU (aU (aU (aU (aU S.1 1 i 2) 3 i why) 5 i 0) 2 i 0) 4 i 0 1 i = 2
  rw [aU_n (.inl (by decide)), aU_n (.inl (by decide)), aU_n (.inl (by decide)), aU_n (.inl (by decide)), aU_s]
section MJ
variable {xs : List Int32} {t u c s d n B self : Nat} {w : Nat → Int32}
theorem m_act {f : mF} {g : mG} {va : Nat → sTm} {S : sS2} {ns : sTm} {i j : Nat} (hd : 6 ≤ d) (h6 : self < 6) (hm : mA f g S.1 S.2) (hwf : wf S) (hal : S.1 1 self = 1) (hw0 : f 139 20 = 0) (hns : g 155 4 = mTh ns) (hg : ∀ v, v < 6 → g 152 v = mTh (va v)) (hV : ∀ v, v < 6 → vV (va v)) (hta : tA S self n w) (hBs : B = 60 * (3 + self)) (h : ap w n i j) : ∃ f' g', am_Y d 133 [.ref 139, .int (nI self), .int (nI (B + i))] (mM xs f g t u c s) = some (.inl (some (.int (m_b (decide ((pA w self S va ns i).1 = 0))))), mM xs f' g' t u c s) ∧ mRR B self j f g (pA w self S va ns i) f' g' := by
  obtain ⟨hi, ⟨h33, m, a1, a2⟩ | ⟨hx, a1⟩ | ⟨h64, h2, h3, hv, hj⟩ | ⟨h42, h2, h3, hj⟩⟩ := h
  · exact m_act33 hd h6 hm hwf hns hg hV hta hBs hi h33 a1 a2
  · exact m_actE hd h6 hm hwf hal hns hg hV hta hBs hi hx a1
  · exact m_act64 (by omega) h6 hm hwf hal hns hg hta h64 h2 h3 hv hj hBs
  · exact m_act42 (by omega) h6 hm hw0 hg hns (tX_A hm hta h6 hBs) h42 h2 hj
theorem m_fail {f : mF} {g : mG} {v : Int32} (hd : 1 ≤ d) : am_Y d 91 [.ref 139, .int v] (mM xs f g t u c s) = some (.inl (some (.int 0)), mM xs (m_u f 139 21 v) g t u c s) := by
  obtain ⟨d, rfl⟩ : ∃ e, d = e + 1 := ⟨d - 1, by omega⟩
  simp (maxSteps := 4000000) (disch := first | omega | assumption) only [↓b_ix, ↓b_l3, ↓b_a3_0, ↓b_a3_1, ↓b_a3_2, ↓b_l4, ↓b_a4_0, ↓b_a4_1, ↓b_a4_2, ↓b_a4_3, ↓b_l129, ↓b_a129_0, ↓b_l130, ↓b_i130_1, ↓b_wi130_1, ↓b_l133, ↓b_a133_0, ↓b_a133_1, ↓b_i133_2, ↓b_wi133_2, ↓b_j133_3, ↓b_wj133_3, ↓b_i133_4, ↓b_wi133_4, ↓b_l134, ↓b_a134_0, ↓b_a134_1, ↓b_i134_2, ↓b_wi134_2, ↓b_i134_3, ↓b_wi134_3, ↓b_l135, ↓b_i135_1, ↓b_wi135_1, ↓b_l139, ↓b_a139_0, ↓b_a139_1, ↓b_a139_2, ↓b_a139_3, ↓b_a139_4, ↓b_a139_5, ↓b_a139_6, ↓b_a139_7, ↓b_a139_8, ↓b_a139_9, ↓b_a139_10, ↓b_a139_11, ↓b_a139_12, ↓b_a139_13, ↓b_a139_14, ↓b_i139_15, ↓b_wi139_15, ↓b_i139_16, ↓b_wi139_16, ↓b_i139_17, ↓b_wi139_17, ↓b_a139_18, ↓b_i139_19, ↓b_wi139_19, ↓b_i139_20, ↓b_wi139_20, ↓b_i139_21, ↓b_wi139_21, ↓b_l6, ↓b_i6, ↓b_wi6, ↓b_l140, ↓b_i140, ↓b_wi140, ↓b_l141, ↓b_i141, ↓b_wi141, ↓b_l142, ↓b_i142, ↓b_wi142, ↓b_l143, ↓b_i143, ↓b_wi143, ↓b_l144, ↓b_j144, ↓b_wj144, ↓b_l145, ↓b_j145, ↓b_wj145, ↓b_l146, ↓b_i146, ↓b_wi146, ↓b_l147, ↓b_i147, ↓b_wi147, ↓b_l148, ↓b_i148, ↓b_wi148, ↓b_l149, ↓b_i149, ↓b_wi149, ↓b_l150, ↓b_j150, ↓b_wj150, ↓b_l151, ↓b_i151, ↓b_wi151, ↓b_l152, ↓b_j152, ↓b_wj152, ↓b_l153, ↓b_i153, ↓b_wi153, ↓b_l154, ↓b_i154, ↓b_wi154, ↓b_l155, ↓b_j155, ↓b_wj155, ↓b_l156, ↓b_j156, ↓b_wj156, ↓b_l138, ↓b_j138, ↓b_wj138, ↓b_a5, ↓b_a13, ↓b_a44, ↓b_lA, ↓b_aA_0, ↓b_aA_1, ↓b_iA_2, ↓b_wiA_2, ↓b_iA_4, ↓b_wiA_4, ↓b_iA_5, ↓b_wiA_5, ↓b_iA_6, ↓b_wiA_6, ↓b_jA_3, ↓b_wjA_3, ↓b_lT, ↓b_lTc, ↓b_aT, ↓b_iT, ↓b_wiT, ↓b_iTc, ↓b_wiTc, ↓b_lW, ↓b_lWc, ↓b_aW, ↓b_iW, ↓b_wiW, ↓b_jWc, ↓b_wjWc, ↓b_rt, ↓b_ru, ↓b_wt, ↓b_wu, ↓b_0l, ↓b_0, ↓b_1, ↓b_2, m_tk, ↓reduceIte, cond_true, cond_false, Option.bind_some, y_Md_fail, e_Md_fail_0]
theorem m_good {f : mF} {g : mG} {v : Int32} {b : Bool} (hd : 1 ≤ d) : am_Y d 92 [.ref 139, .int (m_b b), .int v] (mM xs f g t u c s) = some (.inl (some (.int (m_b b))), mM xs (m_u f 139 21 (if b then 0 else v)) g t u c s) := by
  obtain ⟨d, rfl⟩ : ∃ e, d = e + 1 := ⟨d - 1, by omega⟩
  cases b
  · simp (maxSteps := 4000000) (disch := first | omega | assumption) only [↓b_ix, ↓b_l3, ↓b_a3_0, ↓b_a3_1, ↓b_a3_2, ↓b_l4, ↓b_a4_0, ↓b_a4_1, ↓b_a4_2, ↓b_a4_3, ↓b_l129, ↓b_a129_0, ↓b_l130, ↓b_i130_1, ↓b_wi130_1, ↓b_l133, ↓b_a133_0, ↓b_a133_1, ↓b_i133_2, ↓b_wi133_2, ↓b_j133_3, ↓b_wj133_3, ↓b_i133_4, ↓b_wi133_4, ↓b_l134, ↓b_a134_0, ↓b_a134_1, ↓b_i134_2, ↓b_wi134_2, ↓b_i134_3, ↓b_wi134_3, ↓b_l135, ↓b_i135_1, ↓b_wi135_1, ↓b_l139, ↓b_a139_0, ↓b_a139_1, ↓b_a139_2, ↓b_a139_3, ↓b_a139_4, ↓b_a139_5, ↓b_a139_6, ↓b_a139_7, ↓b_a139_8, ↓b_a139_9, ↓b_a139_10, ↓b_a139_11, ↓b_a139_12, ↓b_a139_13, ↓b_a139_14, ↓b_i139_15, ↓b_wi139_15, ↓b_i139_16, ↓b_wi139_16, ↓b_i139_17, ↓b_wi139_17, ↓b_a139_18, ↓b_i139_19, ↓b_wi139_19, ↓b_i139_20, ↓b_wi139_20, ↓b_i139_21, ↓b_wi139_21, ↓b_l6, ↓b_i6, ↓b_wi6, ↓b_l140, ↓b_i140, ↓b_wi140, ↓b_l141, ↓b_i141, ↓b_wi141, ↓b_l142, ↓b_i142, ↓b_wi142, ↓b_l143, ↓b_i143, ↓b_wi143, ↓b_l144, ↓b_j144, ↓b_wj144, ↓b_l145, ↓b_j145, ↓b_wj145, ↓b_l146, ↓b_i146, ↓b_wi146, ↓b_l147, ↓b_i147, ↓b_wi147, ↓b_l148, ↓b_i148, ↓b_wi148, ↓b_l149, ↓b_i149, ↓b_wi149, ↓b_l150, ↓b_j150, ↓b_wj150, ↓b_l151, ↓b_i151, ↓b_wi151, ↓b_l152, ↓b_j152, ↓b_wj152, ↓b_l153, ↓b_i153, ↓b_wi153, ↓b_l154, ↓b_i154, ↓b_wi154, ↓b_l155, ↓b_j155, ↓b_wj155, ↓b_l156, ↓b_j156, ↓b_wj156, ↓b_l138, ↓b_j138, ↓b_wj138, ↓b_a5, ↓b_a13, ↓b_a44, ↓b_lA, ↓b_aA_0, ↓b_aA_1, ↓b_iA_2, ↓b_wiA_2, ↓b_iA_4, ↓b_wiA_4, ↓b_iA_5, ↓b_wiA_5, ↓b_iA_6, ↓b_wiA_6, ↓b_jA_3, ↓b_wjA_3, ↓b_lT, ↓b_lTc, ↓b_aT, ↓b_iT, ↓b_wiT, ↓b_iTc, ↓b_wiTc, ↓b_lW, ↓b_lWc, ↓b_aW, ↓b_iW, ↓b_wiW, ↓b_jWc, ↓b_wjWc, ↓b_rt, ↓b_ru, ↓b_wt, ↓b_wu, ↓b_0l, ↓b_0, ↓b_1, ↓b_2, m_tk, ↓reduceIte, cond_true, cond_false, Option.bind_some, y_Md_good, e_Md_good_0, e_Md_good_9, e_Md_good_10, m_bf, ft3_0, i_11, i_01, i_1_0, i_0_1, not_true, not_false_eq_true, if_true, if_false, Bool.true_eq_false, Bool.false_eq_true, decide_true, decide_false]
  · simp (maxSteps := 4000000) (disch := first | omega | assumption) only [↓b_ix, ↓b_l3, ↓b_a3_0, ↓b_a3_1, ↓b_a3_2, ↓b_l4, ↓b_a4_0, ↓b_a4_1, ↓b_a4_2, ↓b_a4_3, ↓b_l129, ↓b_a129_0, ↓b_l130, ↓b_i130_1, ↓b_wi130_1, ↓b_l133, ↓b_a133_0, ↓b_a133_1, ↓b_i133_2, ↓b_wi133_2, ↓b_j133_3, ↓b_wj133_3, ↓b_i133_4, ↓b_wi133_4, ↓b_l134, ↓b_a134_0, ↓b_a134_1, ↓b_i134_2, ↓b_wi134_2, ↓b_i134_3, ↓b_wi134_3, ↓b_l135, ↓b_i135_1, ↓b_wi135_1, ↓b_l139, ↓b_a139_0, ↓b_a139_1, ↓b_a139_2, ↓b_a139_3, ↓b_a139_4, ↓b_a139_5, ↓b_a139_6, ↓b_a139_7, ↓b_a139_8, ↓b_a139_9, ↓b_a139_10, ↓b_a139_11, ↓b_a139_12, ↓b_a139_13, ↓b_a139_14, ↓b_i139_15, ↓b_wi139_15, ↓b_i139_16, ↓b_wi139_16, ↓b_i139_17, ↓b_wi139_17, ↓b_a139_18, ↓b_i139_19, ↓b_wi139_19, ↓b_i139_20, ↓b_wi139_20, ↓b_i139_21, ↓b_wi139_21, ↓b_l6, ↓b_i6, ↓b_wi6, ↓b_l140, ↓b_i140, ↓b_wi140, ↓b_l141, ↓b_i141, ↓b_wi141, ↓b_l142, ↓b_i142, ↓b_wi142, ↓b_l143, ↓b_i143, ↓b_wi143, ↓b_l144, ↓b_j144, ↓b_wj144, ↓b_l145, ↓b_j145, ↓b_wj145, ↓b_l146, ↓b_i146, ↓b_wi146, ↓b_l147, ↓b_i147, ↓b_wi147, ↓b_l148, ↓b_i148, ↓b_wi148, ↓b_l149, ↓b_i149, ↓b_wi149, ↓b_l150, ↓b_j150, ↓b_wj150, ↓b_l151, ↓b_i151, ↓b_wi151, ↓b_l152, ↓b_j152, ↓b_wj152, ↓b_l153, ↓b_i153, ↓b_wi153, ↓b_l154, ↓b_i154, ↓b_wi154, ↓b_l155, ↓b_j155, ↓b_wj155, ↓b_l156, ↓b_j156, ↓b_wj156, ↓b_l138, ↓b_j138, ↓b_wj138, ↓b_a5, ↓b_a13, ↓b_a44, ↓b_lA, ↓b_aA_0, ↓b_aA_1, ↓b_iA_2, ↓b_wiA_2, ↓b_iA_4, ↓b_wiA_4, ↓b_iA_5, ↓b_wiA_5, ↓b_iA_6, ↓b_wiA_6, ↓b_jA_3, ↓b_wjA_3, ↓b_lT, ↓b_lTc, ↓b_aT, ↓b_iT, ↓b_wiT, ↓b_iTc, ↓b_wiTc, ↓b_lW, ↓b_lWc, ↓b_aW, ↓b_iW, ↓b_wiW, ↓b_jWc, ↓b_wjWc, ↓b_rt, ↓b_ru, ↓b_wt, ↓b_wu, ↓b_0l, ↓b_0, ↓b_1, ↓b_2, m_tk, ↓reduceIte, cond_true, cond_false, Option.bind_some, y_Md_good, e_Md_good_0, e_Md_good_9, e_Md_good_10, m_bt, ft3_1, i_1_0, i_11, i_01, i_1_0, i_0_1, not_true, not_false_eq_true, if_true, if_false, Bool.true_eq_false, Bool.false_eq_true, decide_true, decide_false]
def cdF (code : Nat) : Nat := if code = 1 then 5 else if code = 2 then 4 else 0
def fY (f f' : mF) : Prop := ∀ x k, (x < 139 ∨ 156 ≤ x) → f' x k = f x k
theorem fY_Z {f f' : mF} (h : fZ f f') : fY f f' := fun x k a => h x k (by omega)
theorem fY_t {f f' f'' : mF} (h : fY f f') (h' : fY f' f'') : fY f f'' := fun x k a => (h' x k a).trans (h x k a)
theorem fY_m {f f' : mF} (h : frm f f') : fY f f' := fun x k a => h x k (by omega)
theorem fY_u {f f' : mF} {A k : Nat} {v : Int32} (h : fY f f') (hA : 139 ≤ A ∧ A < 156) : fY f (m_u f' A k v) := fun x j a => by rw [m_un (by omega)]; exact h x j a
theorem m_perf60 {f : mF} {g : mG} {ans : Nat} {r : Nat × Nat × sS2 × sTm} (hd : 4 ≤ d) (h6 : self < 6) (hwf : wf r.2.2.1) (hal : r.2.2.1.1 1 self = 1) (hm : mA f g (if r.1 = 3 then pEnd r.2.2.1 self r.2.1 else r.2.2.1).1 (if r.1 = 3 then pEnd r.2.2.1 self r.2.1 else r.2.2.1).2) (hc : f 139 20 = nI (trC r.1)) (h4 : r.1 = 0 ∨ r.1 = 1 ∨ r.1 = 2 ∨ r.1 = 3) (hns : r.1 = 0 → g 155 4 = mTh r.2.2.2) (h21 : f 139 21 = 0) : ∃ f' g' R, am_X (am_Y d) k_Md_perform 60 [(0, .ref 139), (1, .int (nI self)), (2, .int (nI ans))] [] (mM xs f g t u c s) = some (.inl (some (.int R)), mM xs f' g' t u c s) ∧ mA f' g' (pPf self r).1 (pPf self r).2 ∧ f' 139 21 = nI (cdF r.1) ∧ (cdF r.1 = 0 → R = nI ans) ∧ fY f f' ∧ gZ g g' := by
  have hb := hwf.1
  have l4 := hwf.2.2.2.2.1 self h6
  rcases h4 with e | e | e | e
  · rw [if_neg (by rw [e]; decide)] at hm
    have hc0 : f 139 20 = 0 := by rw [hc, e]; rfl
    have hst : f 143 self = 1 := by have := hm.2.1 self h6; rw [hal] at this; exact this
    have hl := hns e
    have ep : pPf self r = (r.2.2.1.1, bU r.2.2.1.2 0 self r.2.2.2) := by unfold pPf; rw [if_pos e]
    rw [ep, e]
    refine ⟨f, m_w g 144 self (mTh r.2.2.2), nI ans, ?_, mA_sa hm h6, h21, fun _ => rfl, fun _ _ _ => rfl, fun x k a => m_wn (by omega)⟩
    simp (maxSteps := 4000000) (disch := first | omega | assumption) only [↓b_ix, ↓b_l3, ↓b_a3_0, ↓b_a3_1, ↓b_a3_2, ↓b_l4, ↓b_a4_0, ↓b_a4_1, ↓b_a4_2, ↓b_a4_3, ↓b_l129, ↓b_a129_0, ↓b_l130, ↓b_i130_1, ↓b_wi130_1, ↓b_l133, ↓b_a133_0, ↓b_a133_1, ↓b_i133_2, ↓b_wi133_2, ↓b_j133_3, ↓b_wj133_3, ↓b_i133_4, ↓b_wi133_4, ↓b_l134, ↓b_a134_0, ↓b_a134_1, ↓b_i134_2, ↓b_wi134_2, ↓b_i134_3, ↓b_wi134_3, ↓b_l135, ↓b_i135_1, ↓b_wi135_1, ↓b_l139, ↓b_a139_0, ↓b_a139_1, ↓b_a139_2, ↓b_a139_3, ↓b_a139_4, ↓b_a139_5, ↓b_a139_6, ↓b_a139_7, ↓b_a139_8, ↓b_a139_9, ↓b_a139_10, ↓b_a139_11, ↓b_a139_12, ↓b_a139_13, ↓b_a139_14, ↓b_i139_15, ↓b_wi139_15, ↓b_i139_16, ↓b_wi139_16, ↓b_i139_17, ↓b_wi139_17, ↓b_a139_18, ↓b_i139_19, ↓b_wi139_19, ↓b_i139_20, ↓b_wi139_20, ↓b_i139_21, ↓b_wi139_21, ↓b_l6, ↓b_i6, ↓b_wi6, ↓b_l140, ↓b_i140, ↓b_wi140, ↓b_l141, ↓b_i141, ↓b_wi141, ↓b_l142, ↓b_i142, ↓b_wi142, ↓b_l143, ↓b_i143, ↓b_wi143, ↓b_l144, ↓b_j144, ↓b_wj144, ↓b_l145, ↓b_j145, ↓b_wj145, ↓b_l146, ↓b_i146, ↓b_wi146, ↓b_l147, ↓b_i147, ↓b_wi147, ↓b_l148, ↓b_i148, ↓b_wi148, ↓b_l149, ↓b_i149, ↓b_wi149, ↓b_l150, ↓b_j150, ↓b_wj150, ↓b_l151, ↓b_i151, ↓b_wi151, ↓b_l152, ↓b_j152, ↓b_wj152, ↓b_l153, ↓b_i153, ↓b_wi153, ↓b_l154, ↓b_i154, ↓b_wi154, ↓b_l155, ↓b_j155, ↓b_wj155, ↓b_l156, ↓b_j156, ↓b_wj156, ↓b_l138, ↓b_j138, ↓b_wj138, ↓b_a5, ↓b_a13, ↓b_a44, ↓b_lA, ↓b_aA_0, ↓b_aA_1, ↓b_iA_2, ↓b_wiA_2, ↓b_iA_4, ↓b_wiA_4, ↓b_iA_5, ↓b_wiA_5, ↓b_iA_6, ↓b_wiA_6, ↓b_jA_3, ↓b_wjA_3, ↓b_lT, ↓b_lTc, ↓b_aT, ↓b_iT, ↓b_wiT, ↓b_iTc, ↓b_wiTc, ↓b_lW, ↓b_lWc, ↓b_aW, ↓b_iW, ↓b_wiW, ↓b_jWc, ↓b_wjWc, ↓b_rt, ↓b_ru, ↓b_wt, ↓b_wu, ↓b_0l, ↓b_0, ↓b_1, ↓b_2, m_tk, ↓reduceIte, cond_true, cond_false, Option.bind_some, e_Md_perform_60, e_Md_perform_108, e_Md_perform_130, hc0, hst, ↓show am_ix 4 = some 4 from rfl, hl, i_11, i_01, i_1_0, i_0_1, not_true, not_false_eq_true, if_true, if_false, Bool.true_eq_false, Bool.false_eq_true, decide_true, decide_false]
  · rw [if_neg (by rw [e]; decide)] at hm
    have hc1 : f 139 20 = 1 := by rw [hc, e]; rfl
    obtain ⟨f1, g1, y1, y2, y3, y4⟩ := m_end (xs := xs) (t := t) (u := u) (c := c) (s := s) (why := 2004) (show 3 ≤ d by omega) hm hb h6 l4 (by decide)
    have hc2 : f1 139 20 = 1 := by rw [y3 _ _ (by omega)]; exact hc1
    have ep : pPf self r = pEnd r.2.2.1 self 2004 := by unfold pPf; rw [e]; rfl
    rw [ep, e]
    refine ⟨m_u f1 139 21 5, g1, 0, ?_, mA_fr (fun x k a b => m_un (by omega)) (by obtain ⟨fo, p1, p2⟩ := y2.2.2.2.2.2.2.2.2.2.2.2.2; exact ⟨fo, p1, by rw [m_un (by omega)]; exact p2⟩) (fun x k a b => rfl) y2, m_uu _, fun hh => absurd hh (by decide), fY_u (fY_m y3) (by omega), gZ_m y4⟩
    simp (maxSteps := 4000000) (disch := first | omega | assumption) only [↓b_ix, ↓b_l3, ↓b_a3_0, ↓b_a3_1, ↓b_a3_2, ↓b_l4, ↓b_a4_0, ↓b_a4_1, ↓b_a4_2, ↓b_a4_3, ↓b_l129, ↓b_a129_0, ↓b_l130, ↓b_i130_1, ↓b_wi130_1, ↓b_l133, ↓b_a133_0, ↓b_a133_1, ↓b_i133_2, ↓b_wi133_2, ↓b_j133_3, ↓b_wj133_3, ↓b_i133_4, ↓b_wi133_4, ↓b_l134, ↓b_a134_0, ↓b_a134_1, ↓b_i134_2, ↓b_wi134_2, ↓b_i134_3, ↓b_wi134_3, ↓b_l135, ↓b_i135_1, ↓b_wi135_1, ↓b_l139, ↓b_a139_0, ↓b_a139_1, ↓b_a139_2, ↓b_a139_3, ↓b_a139_4, ↓b_a139_5, ↓b_a139_6, ↓b_a139_7, ↓b_a139_8, ↓b_a139_9, ↓b_a139_10, ↓b_a139_11, ↓b_a139_12, ↓b_a139_13, ↓b_a139_14, ↓b_i139_15, ↓b_wi139_15, ↓b_i139_16, ↓b_wi139_16, ↓b_i139_17, ↓b_wi139_17, ↓b_a139_18, ↓b_i139_19, ↓b_wi139_19, ↓b_i139_20, ↓b_wi139_20, ↓b_i139_21, ↓b_wi139_21, ↓b_l6, ↓b_i6, ↓b_wi6, ↓b_l140, ↓b_i140, ↓b_wi140, ↓b_l141, ↓b_i141, ↓b_wi141, ↓b_l142, ↓b_i142, ↓b_wi142, ↓b_l143, ↓b_i143, ↓b_wi143, ↓b_l144, ↓b_j144, ↓b_wj144, ↓b_l145, ↓b_j145, ↓b_wj145, ↓b_l146, ↓b_i146, ↓b_wi146, ↓b_l147, ↓b_i147, ↓b_wi147, ↓b_l148, ↓b_i148, ↓b_wi148, ↓b_l149, ↓b_i149, ↓b_wi149, ↓b_l150, ↓b_j150, ↓b_wj150, ↓b_l151, ↓b_i151, ↓b_wi151, ↓b_l152, ↓b_j152, ↓b_wj152, ↓b_l153, ↓b_i153, ↓b_wi153, ↓b_l154, ↓b_i154, ↓b_wi154, ↓b_l155, ↓b_j155, ↓b_wj155, ↓b_l156, ↓b_j156, ↓b_wj156, ↓b_l138, ↓b_j138, ↓b_wj138, ↓b_a5, ↓b_a13, ↓b_a44, ↓b_lA, ↓b_aA_0, ↓b_aA_1, ↓b_iA_2, ↓b_wiA_2, ↓b_iA_4, ↓b_wiA_4, ↓b_iA_5, ↓b_wiA_5, ↓b_iA_6, ↓b_wiA_6, ↓b_jA_3, ↓b_wjA_3, ↓b_lT, ↓b_lTc, ↓b_aT, ↓b_iT, ↓b_wiT, ↓b_iTc, ↓b_wiTc, ↓b_lW, ↓b_lWc, ↓b_aW, ↓b_iW, ↓b_wiW, ↓b_jWc, ↓b_wjWc, ↓b_rt, ↓b_ru, ↓b_wt, ↓b_wu, ↓b_0l, ↓b_0, ↓b_1, ↓b_2, m_tk, ↓reduceIte, cond_true, cond_false, Option.bind_some, e_Md_perform_60, e_Md_perform_84, e_Md_perform_85, e_Md_perform_103, e_Md_perform_104, hc1, i_1_0, show (1999 : Int32) + 5 = nI 2004 from rfl, ↓bI y1, hc2, i_2_1, ↓bI (m_fail (show 1 ≤ d by omega)), i_11, i_01, i_1_0, i_0_1, not_true, not_false_eq_true, if_true, if_false, Bool.true_eq_false, Bool.false_eq_true, decide_true, decide_false]
  · rw [if_neg (by rw [e]; decide)] at hm
    have hc1 : f 139 20 = 2 := by rw [hc, e]; rfl
    obtain ⟨f1, g1, y1, y2, y3, y4⟩ := m_end (xs := xs) (t := t) (u := u) (c := c) (s := s) (why := 2002) (show 3 ≤ d by omega) hm hb h6 l4 (by decide)
    have hc2 : f1 139 20 = 2 := by rw [y3 _ _ (by omega)]; exact hc1
    have ep : pPf self r = pEnd r.2.2.1 self 2002 := by unfold pPf; rw [e]; rfl
    rw [ep, e]
    refine ⟨m_u f1 139 21 4, g1, 0, ?_, mA_fr (fun x k a b => m_un (by omega)) (by obtain ⟨fo, p1, p2⟩ := y2.2.2.2.2.2.2.2.2.2.2.2.2; exact ⟨fo, p1, by rw [m_un (by omega)]; exact p2⟩) (fun x k a b => rfl) y2, m_uu _, fun hh => absurd hh (by decide), fY_u (fY_m y3) (by omega), gZ_m y4⟩
    simp (maxSteps := 4000000) (disch := first | omega | assumption) only [↓b_ix, ↓b_l3, ↓b_a3_0, ↓b_a3_1, ↓b_a3_2, ↓b_l4, ↓b_a4_0, ↓b_a4_1, ↓b_a4_2, ↓b_a4_3, ↓b_l129, ↓b_a129_0, ↓b_l130, ↓b_i130_1, ↓b_wi130_1, ↓b_l133, ↓b_a133_0, ↓b_a133_1, ↓b_i133_2, ↓b_wi133_2, ↓b_j133_3, ↓b_wj133_3, ↓b_i133_4, ↓b_wi133_4, ↓b_l134, ↓b_a134_0, ↓b_a134_1, ↓b_i134_2, ↓b_wi134_2, ↓b_i134_3, ↓b_wi134_3, ↓b_l135, ↓b_i135_1, ↓b_wi135_1, ↓b_l139, ↓b_a139_0, ↓b_a139_1, ↓b_a139_2, ↓b_a139_3, ↓b_a139_4, ↓b_a139_5, ↓b_a139_6, ↓b_a139_7, ↓b_a139_8, ↓b_a139_9, ↓b_a139_10, ↓b_a139_11, ↓b_a139_12, ↓b_a139_13, ↓b_a139_14, ↓b_i139_15, ↓b_wi139_15, ↓b_i139_16, ↓b_wi139_16, ↓b_i139_17, ↓b_wi139_17, ↓b_a139_18, ↓b_i139_19, ↓b_wi139_19, ↓b_i139_20, ↓b_wi139_20, ↓b_i139_21, ↓b_wi139_21, ↓b_l6, ↓b_i6, ↓b_wi6, ↓b_l140, ↓b_i140, ↓b_wi140, ↓b_l141, ↓b_i141, ↓b_wi141, ↓b_l142, ↓b_i142, ↓b_wi142, ↓b_l143, ↓b_i143, ↓b_wi143, ↓b_l144, ↓b_j144, ↓b_wj144, ↓b_l145, ↓b_j145, ↓b_wj145, ↓b_l146, ↓b_i146, ↓b_wi146, ↓b_l147, ↓b_i147, ↓b_wi147, ↓b_l148, ↓b_i148, ↓b_wi148, ↓b_l149, ↓b_i149, ↓b_wi149, ↓b_l150, ↓b_j150, ↓b_wj150, ↓b_l151, ↓b_i151, ↓b_wi151, ↓b_l152, ↓b_j152, ↓b_wj152, ↓b_l153, ↓b_i153, ↓b_wi153, ↓b_l154, ↓b_i154, ↓b_wi154, ↓b_l155, ↓b_j155, ↓b_wj155, ↓b_l156, ↓b_j156, ↓b_wj156, ↓b_l138, ↓b_j138, ↓b_wj138, ↓b_a5, ↓b_a13, ↓b_a44, ↓b_lA, ↓b_aA_0, ↓b_aA_1, ↓b_iA_2, ↓b_wiA_2, ↓b_iA_4, ↓b_wiA_4, ↓b_iA_5, ↓b_wiA_5, ↓b_iA_6, ↓b_wiA_6, ↓b_jA_3, ↓b_wjA_3, ↓b_lT, ↓b_lTc, ↓b_aT, ↓b_iT, ↓b_wiT, ↓b_iTc, ↓b_wiTc, ↓b_lW, ↓b_lWc, ↓b_aW, ↓b_iW, ↓b_wiW, ↓b_jWc, ↓b_wjWc, ↓b_rt, ↓b_ru, ↓b_wt, ↓b_wu, ↓b_0l, ↓b_0, ↓b_1, ↓b_2, m_tk, ↓reduceIte, cond_true, cond_false, Option.bind_some, e_Md_perform_60, e_Md_perform_84, e_Md_perform_85, e_Md_perform_103, e_Md_perform_104, hc1, i_2_0, i_2_1, show (1999 : Int32) + 3 = nI 2002 from rfl, ↓bI y1, hc2, i_2_1, ↓bI (m_fail (show 1 ≤ d by omega)), i_11, i_01, i_1_0, i_0_1, not_true, not_false_eq_true, if_true, if_false, Bool.true_eq_false, Bool.false_eq_true, decide_true, decide_false]
  · rw [if_pos e] at hm
    have hc0 : f 139 20 = 0 := by rw [hc, e]; rfl
    have hst : f 143 self = 2 := by have := hm.2.1 self h6; rw [pEnd_st] at this; exact this
    have ep : pPf self r = pEnd r.2.2.1 self r.2.1 := by unfold pPf; rw [e]; rfl
    rw [ep, e]
    refine ⟨f, g, nI ans, ?_, hm, h21, fun _ => rfl, fun _ _ _ => rfl, gZ_r g⟩
    simp (maxSteps := 4000000) (disch := first | omega | assumption) only [↓b_ix, ↓b_l3, ↓b_a3_0, ↓b_a3_1, ↓b_a3_2, ↓b_l4, ↓b_a4_0, ↓b_a4_1, ↓b_a4_2, ↓b_a4_3, ↓b_l129, ↓b_a129_0, ↓b_l130, ↓b_i130_1, ↓b_wi130_1, ↓b_l133, ↓b_a133_0, ↓b_a133_1, ↓b_i133_2, ↓b_wi133_2, ↓b_j133_3, ↓b_wj133_3, ↓b_i133_4, ↓b_wi133_4, ↓b_l134, ↓b_a134_0, ↓b_a134_1, ↓b_i134_2, ↓b_wi134_2, ↓b_i134_3, ↓b_wi134_3, ↓b_l135, ↓b_i135_1, ↓b_wi135_1, ↓b_l139, ↓b_a139_0, ↓b_a139_1, ↓b_a139_2, ↓b_a139_3, ↓b_a139_4, ↓b_a139_5, ↓b_a139_6, ↓b_a139_7, ↓b_a139_8, ↓b_a139_9, ↓b_a139_10, ↓b_a139_11, ↓b_a139_12, ↓b_a139_13, ↓b_a139_14, ↓b_i139_15, ↓b_wi139_15, ↓b_i139_16, ↓b_wi139_16, ↓b_i139_17, ↓b_wi139_17, ↓b_a139_18, ↓b_i139_19, ↓b_wi139_19, ↓b_i139_20, ↓b_wi139_20, ↓b_i139_21, ↓b_wi139_21, ↓b_l6, ↓b_i6, ↓b_wi6, ↓b_l140, ↓b_i140, ↓b_wi140, ↓b_l141, ↓b_i141, ↓b_wi141, ↓b_l142, ↓b_i142, ↓b_wi142, ↓b_l143, ↓b_i143, ↓b_wi143, ↓b_l144, ↓b_j144, ↓b_wj144, ↓b_l145, ↓b_j145, ↓b_wj145, ↓b_l146, ↓b_i146, ↓b_wi146, ↓b_l147, ↓b_i147, ↓b_wi147, ↓b_l148, ↓b_i148, ↓b_wi148, ↓b_l149, ↓b_i149, ↓b_wi149, ↓b_l150, ↓b_j150, ↓b_wj150, ↓b_l151, ↓b_i151, ↓b_wi151, ↓b_l152, ↓b_j152, ↓b_wj152, ↓b_l153, ↓b_i153, ↓b_wi153, ↓b_l154, ↓b_i154, ↓b_wi154, ↓b_l155, ↓b_j155, ↓b_wj155, ↓b_l156, ↓b_j156, ↓b_wj156, ↓b_l138, ↓b_j138, ↓b_wj138, ↓b_a5, ↓b_a13, ↓b_a44, ↓b_lA, ↓b_aA_0, ↓b_aA_1, ↓b_iA_2, ↓b_wiA_2, ↓b_iA_4, ↓b_wiA_4, ↓b_iA_5, ↓b_wiA_5, ↓b_iA_6, ↓b_wiA_6, ↓b_jA_3, ↓b_wjA_3, ↓b_lT, ↓b_lTc, ↓b_aT, ↓b_iT, ↓b_wiT, ↓b_iTc, ↓b_wiTc, ↓b_lW, ↓b_lWc, ↓b_aW, ↓b_iW, ↓b_wiW, ↓b_jWc, ↓b_wjWc, ↓b_rt, ↓b_ru, ↓b_wt, ↓b_wu, ↓b_0l, ↓b_0, ↓b_1, ↓b_2, m_tk, ↓reduceIte, cond_true, cond_false, Option.bind_some, e_Md_perform_60, e_Md_perform_108, e_Md_perform_130, hc0, hst, i_2_1, i_11, i_01, i_1_0, i_0_1, not_true, not_false_eq_true, if_true, if_false, Bool.true_eq_false, Bool.false_eq_true, decide_true, decide_false]
theorem m_perfL {ans : Nat} (hd : 7 ≤ d) (h6 : self < 6) (hBs : B = 60 * (3 + self)) : ∀ m i {f : mF} {g : mG} {va : Nat → sTm} {S : sS2} {ns : sTm} {j : Nat}, mA f g S.1 S.2 → wf S → S.1 1 self = 1 → f 139 20 = 0 → f 139 21 = 0 → g 155 4 = mTh ns → tv ns.1 ns.2 → (∀ v, v < 6 → g 152 v = mTh (va v)) → (∀ v, v < 6 → vV (va v)) → tA S self n w → f 139 19 = nI (B + i) → az w n m i j → ∃ f' g' R, am_X (am_Y d) k_Md_perform 29 [(0, .ref 139), (1, .int (nI self)), (2, .int (nI ans)), (3, .int 1)] [] (mM xs f g t u c s) = some (.inl (some (.int R)), mM xs f' g' t u c s) ∧ mA f' g' (pPf self (pP w self m i S va ns)).1 (pPf self (pP w self m i S va ns)).2 ∧ f' 139 21 = nI (cdF (pP w self m i S va ns).1) ∧ (cdF (pP w self m i S va ns).1 = 0 → R = nI ans) ∧ fY f f' ∧ gZ g g' ∧ wf (pPf self (pP w self m i S va ns))
  | 0, i, f, g, va, S, ns, j, hm, hwf, hal, h20, h21, hns, htn, hg, hV, hta, hat, h => h.elim
  | m + 1, i, f, g, va, S, ns, j, hm, hwf, hal, h20, h21, hns, htn, hg, hV, hta, hat, h => by
    have hx := tX_A hm hta h6 hBs
    have hB := hx.1
    rcases h with ⟨g1, g2, rfl⟩ | ⟨g0, i1, ga, gz⟩
    · have w0 := hx.2 i g1
      rw [g2] at w0
      have e : pP w self (m + 1) i S va ns = (0, 0, S, ns) := by rw [pP, if_pos g2]
      rw [e]
      obtain ⟨f', g', R, y1, y2, y3, y4, y5, y6⟩ := m_perf60 (xs := xs) (t := t) (u := u) (c := c) (s := s) (f := f) (g := g) (ans := ans) (r := (0, 0, S, ns)) (show 4 ≤ d by omega) h6 hwf hal hm h20 (.inl rfl) (fun _ => hns) h21
      refine ⟨f', g', R, ?_, y2, y3, y4, y5, y6, ?_⟩
      · rw [← y1, e_Md_perform_29]
        simp (maxSteps := 4000000) (disch := first | omega | assumption) only [↓b_ix, ↓b_l3, ↓b_a3_0, ↓b_a3_1, ↓b_a3_2, ↓b_l4, ↓b_a4_0, ↓b_a4_1, ↓b_a4_2, ↓b_a4_3, ↓b_l129, ↓b_a129_0, ↓b_l130, ↓b_i130_1, ↓b_wi130_1, ↓b_l133, ↓b_a133_0, ↓b_a133_1, ↓b_i133_2, ↓b_wi133_2, ↓b_j133_3, ↓b_wj133_3, ↓b_i133_4, ↓b_wi133_4, ↓b_l134, ↓b_a134_0, ↓b_a134_1, ↓b_i134_2, ↓b_wi134_2, ↓b_i134_3, ↓b_wi134_3, ↓b_l135, ↓b_i135_1, ↓b_wi135_1, ↓b_l139, ↓b_a139_0, ↓b_a139_1, ↓b_a139_2, ↓b_a139_3, ↓b_a139_4, ↓b_a139_5, ↓b_a139_6, ↓b_a139_7, ↓b_a139_8, ↓b_a139_9, ↓b_a139_10, ↓b_a139_11, ↓b_a139_12, ↓b_a139_13, ↓b_a139_14, ↓b_i139_15, ↓b_wi139_15, ↓b_i139_16, ↓b_wi139_16, ↓b_i139_17, ↓b_wi139_17, ↓b_a139_18, ↓b_i139_19, ↓b_wi139_19, ↓b_i139_20, ↓b_wi139_20, ↓b_i139_21, ↓b_wi139_21, ↓b_l6, ↓b_i6, ↓b_wi6, ↓b_l140, ↓b_i140, ↓b_wi140, ↓b_l141, ↓b_i141, ↓b_wi141, ↓b_l142, ↓b_i142, ↓b_wi142, ↓b_l143, ↓b_i143, ↓b_wi143, ↓b_l144, ↓b_j144, ↓b_wj144, ↓b_l145, ↓b_j145, ↓b_wj145, ↓b_l146, ↓b_i146, ↓b_wi146, ↓b_l147, ↓b_i147, ↓b_wi147, ↓b_l148, ↓b_i148, ↓b_wi148, ↓b_l149, ↓b_i149, ↓b_wi149, ↓b_l150, ↓b_j150, ↓b_wj150, ↓b_l151, ↓b_i151, ↓b_wi151, ↓b_l152, ↓b_j152, ↓b_wj152, ↓b_l153, ↓b_i153, ↓b_wi153, ↓b_l154, ↓b_i154, ↓b_wi154, ↓b_l155, ↓b_j155, ↓b_wj155, ↓b_l156, ↓b_j156, ↓b_wj156, ↓b_l138, ↓b_j138, ↓b_wj138, ↓b_a5, ↓b_a13, ↓b_a44, ↓b_lA, ↓b_aA_0, ↓b_aA_1, ↓b_iA_2, ↓b_wiA_2, ↓b_iA_4, ↓b_wiA_4, ↓b_iA_5, ↓b_wiA_5, ↓b_iA_6, ↓b_wiA_6, ↓b_jA_3, ↓b_wjA_3, ↓b_lT, ↓b_lTc, ↓b_aT, ↓b_iT, ↓b_wiT, ↓b_iTc, ↓b_wiTc, ↓b_lW, ↓b_lWc, ↓b_aW, ↓b_iW, ↓b_wiW, ↓b_jWc, ↓b_wjWc, ↓b_rt, ↓b_ru, ↓b_wt, ↓b_wu, ↓b_0l, ↓b_0, ↓b_1, ↓b_2, m_tk, ↓reduceIte, cond_true, cond_false, Option.bind_some, i_1_0, hat, w0, i_11, i_01, i_1_0, i_0_1, not_true, not_false_eq_true, if_true, if_false, Bool.true_eq_false, Bool.false_eq_true, decide_true, decide_false]
      · exact wf_sa h6 hal htn hwf
    · have hi := ga.1
      have w0 := hx.2 i hi
      have g9 : ¬ w i = 59 := fun e => g0 ⟨hi, e⟩
      obtain ⟨f1, g1, y1, y2⟩ := m_act (xs := xs) (t := t) (u := u) (c := c) (s := s) (show 6 ≤ d by omega) h6 hm hwf hal h20 hns hg hV hta hBs ga
      obtain ⟨ok, okE⟩ := pA_ok (ns := ns) h6 hwf.1 hal hV htn ga
      obtain ⟨owf, ota⟩ := pA_wf (ns := ns) h6 hwf hal hV hta ga
      generalize hO : pA w self S va ns i = o at *
      obtain ⟨z1, z2, z3, z4, z5⟩ := y2
      obtain ⟨k1, k2, k3, k4, k5, k6⟩ := ok
      have h21' : f1 139 21 = 0 := by rw [z4 _ _ (by omega)]; exact h21
      by_cases c0 : o.1 = 0
      · have e : pP w self (m + 1) i S va ns = pP w self m i1 o.2.2.1 o.2.2.2.1 o.2.2.2.2 := by rw [pP, if_neg g9, hO, if_pos c0, okE c0]
        rw [e]
        obtain ⟨q1, q2, q3⟩ := z3 c0
        rw [if_neg (by rw [c0]; decide)] at z1
        have h20' : f1 139 20 = 0 := by rw [z2, c0]; rfl
        obtain ⟨f', g', R, v1, v2, v3, v4, v5, v6, v7⟩ := m_perfL hd h6 hBs m i1 (f := f1) (g := g1) (j := j) z1 owf k2 h20' h21' q3 k4 q2 k3 ota q1 gz
        refine ⟨f', g', R, ?_, v2, v3, v4, fY_t (fY_Z z4) v5, gZ_t z5 v6, v7⟩
        rw [decide_eq_true c0] at y1
        rw [← v1, e_Md_perform_29]
        simp (maxSteps := 4000000) (disch := first | omega | assumption) only [↓b_ix, ↓b_l3, ↓b_a3_0, ↓b_a3_1, ↓b_a3_2, ↓b_l4, ↓b_a4_0, ↓b_a4_1, ↓b_a4_2, ↓b_a4_3, ↓b_l129, ↓b_a129_0, ↓b_l130, ↓b_i130_1, ↓b_wi130_1, ↓b_l133, ↓b_a133_0, ↓b_a133_1, ↓b_i133_2, ↓b_wi133_2, ↓b_j133_3, ↓b_wj133_3, ↓b_i133_4, ↓b_wi133_4, ↓b_l134, ↓b_a134_0, ↓b_a134_1, ↓b_i134_2, ↓b_wi134_2, ↓b_i134_3, ↓b_wi134_3, ↓b_l135, ↓b_i135_1, ↓b_wi135_1, ↓b_l139, ↓b_a139_0, ↓b_a139_1, ↓b_a139_2, ↓b_a139_3, ↓b_a139_4, ↓b_a139_5, ↓b_a139_6, ↓b_a139_7, ↓b_a139_8, ↓b_a139_9, ↓b_a139_10, ↓b_a139_11, ↓b_a139_12, ↓b_a139_13, ↓b_a139_14, ↓b_i139_15, ↓b_wi139_15, ↓b_i139_16, ↓b_wi139_16, ↓b_i139_17, ↓b_wi139_17, ↓b_a139_18, ↓b_i139_19, ↓b_wi139_19, ↓b_i139_20, ↓b_wi139_20, ↓b_i139_21, ↓b_wi139_21, ↓b_l6, ↓b_i6, ↓b_wi6, ↓b_l140, ↓b_i140, ↓b_wi140, ↓b_l141, ↓b_i141, ↓b_wi141, ↓b_l142, ↓b_i142, ↓b_wi142, ↓b_l143, ↓b_i143, ↓b_wi143, ↓b_l144, ↓b_j144, ↓b_wj144, ↓b_l145, ↓b_j145, ↓b_wj145, ↓b_l146, ↓b_i146, ↓b_wi146, ↓b_l147, ↓b_i147, ↓b_wi147, ↓b_l148, ↓b_i148, ↓b_wi148, ↓b_l149, ↓b_i149, ↓b_wi149, ↓b_l150, ↓b_j150, ↓b_wj150, ↓b_l151, ↓b_i151, ↓b_wi151, ↓b_l152, ↓b_j152, ↓b_wj152, ↓b_l153, ↓b_i153, ↓b_wi153, ↓b_l154, ↓b_i154, ↓b_wi154, ↓b_l155, ↓b_j155, ↓b_wj155, ↓b_l156, ↓b_j156, ↓b_wj156, ↓b_l138, ↓b_j138, ↓b_wj138, ↓b_a5, ↓b_a13, ↓b_a44, ↓b_lA, ↓b_aA_0, ↓b_aA_1, ↓b_iA_2, ↓b_wiA_2, ↓b_iA_4, ↓b_wiA_4, ↓b_iA_5, ↓b_wiA_5, ↓b_iA_6, ↓b_wiA_6, ↓b_jA_3, ↓b_wjA_3, ↓b_lT, ↓b_lTc, ↓b_aT, ↓b_iT, ↓b_wiT, ↓b_iTc, ↓b_wiTc, ↓b_lW, ↓b_lWc, ↓b_aW, ↓b_iW, ↓b_wiW, ↓b_jWc, ↓b_wjWc, ↓b_rt, ↓b_ru, ↓b_wt, ↓b_wu, ↓b_0l, ↓b_0, ↓b_1, ↓b_2, m_tk, ↓reduceIte, cond_true, cond_false, Option.bind_some, i_1_0, hat, w0, g9, ↓bI y1, m_bt, i_11, i_01, i_1_0, i_0_1, not_true, not_false_eq_true, if_true, if_false, Bool.true_eq_false, Bool.false_eq_true, decide_true, decide_false]
      · have e : pP w self (m + 1) i S va ns = (o.1, o.2.1, o.2.2.1, o.2.2.2.2) := by rw [pP, if_neg g9, hO, if_neg c0]
        rw [e]
        obtain ⟨f', g', R, v1, v2, v3, v4, v5, v6⟩ := m_perf60 (xs := xs) (t := t) (u := u) (c := c) (s := s) (f := f1) (g := g1) (ans := ans) (r := (o.1, o.2.1, o.2.2.1, o.2.2.2.2)) (show 4 ≤ d by omega) h6 owf k2 z1 z2 k6 (fun hh => absurd hh c0) h21'
        refine ⟨f', g', R, ?_, v2, v3, v4, fY_t (fY_Z z4) v5, gZ_t z5 v6, ?_⟩
        · rw [decide_eq_false c0] at y1
          rw [← v1, e_Md_perform_29]
          simp (maxSteps := 4000000) (disch := first | omega | assumption) only [↓b_ix, ↓b_l3, ↓b_a3_0, ↓b_a3_1, ↓b_a3_2, ↓b_l4, ↓b_a4_0, ↓b_a4_1, ↓b_a4_2, ↓b_a4_3, ↓b_l129, ↓b_a129_0, ↓b_l130, ↓b_i130_1, ↓b_wi130_1, ↓b_l133, ↓b_a133_0, ↓b_a133_1, ↓b_i133_2, ↓b_wi133_2, ↓b_j133_3, ↓b_wj133_3, ↓b_i133_4, ↓b_wi133_4, ↓b_l134, ↓b_a134_0, ↓b_a134_1, ↓b_i134_2, ↓b_wi134_2, ↓b_i134_3, ↓b_wi134_3, ↓b_l135, ↓b_i135_1, ↓b_wi135_1, ↓b_l139, ↓b_a139_0, ↓b_a139_1, ↓b_a139_2, ↓b_a139_3, ↓b_a139_4, ↓b_a139_5, ↓b_a139_6, ↓b_a139_7, ↓b_a139_8, ↓b_a139_9, ↓b_a139_10, ↓b_a139_11, ↓b_a139_12, ↓b_a139_13, ↓b_a139_14, ↓b_i139_15, ↓b_wi139_15, ↓b_i139_16, ↓b_wi139_16, ↓b_i139_17, ↓b_wi139_17, ↓b_a139_18, ↓b_i139_19, ↓b_wi139_19, ↓b_i139_20, ↓b_wi139_20, ↓b_i139_21, ↓b_wi139_21, ↓b_l6, ↓b_i6, ↓b_wi6, ↓b_l140, ↓b_i140, ↓b_wi140, ↓b_l141, ↓b_i141, ↓b_wi141, ↓b_l142, ↓b_i142, ↓b_wi142, ↓b_l143, ↓b_i143, ↓b_wi143, ↓b_l144, ↓b_j144, ↓b_wj144, ↓b_l145, ↓b_j145, ↓b_wj145, ↓b_l146, ↓b_i146, ↓b_wi146, ↓b_l147, ↓b_i147, ↓b_wi147, ↓b_l148, ↓b_i148, ↓b_wi148, ↓b_l149, ↓b_i149, ↓b_wi149, ↓b_l150, ↓b_j150, ↓b_wj150, ↓b_l151, ↓b_i151, ↓b_wi151, ↓b_l152, ↓b_j152, ↓b_wj152, ↓b_l153, ↓b_i153, ↓b_wi153, ↓b_l154, ↓b_i154, ↓b_wi154, ↓b_l155, ↓b_j155, ↓b_wj155, ↓b_l156, ↓b_j156, ↓b_wj156, ↓b_l138, ↓b_j138, ↓b_wj138, ↓b_a5, ↓b_a13, ↓b_a44, ↓b_lA, ↓b_aA_0, ↓b_aA_1, ↓b_iA_2, ↓b_wiA_2, ↓b_iA_4, ↓b_wiA_4, ↓b_iA_5, ↓b_wiA_5, ↓b_iA_6, ↓b_wiA_6, ↓b_jA_3, ↓b_wjA_3, ↓b_lT, ↓b_lTc, ↓b_aT, ↓b_iT, ↓b_wiT, ↓b_iTc, ↓b_wiTc, ↓b_lW, ↓b_lWc, ↓b_aW, ↓b_iW, ↓b_wiW, ↓b_jWc, ↓b_wjWc, ↓b_rt, ↓b_ru, ↓b_wt, ↓b_wu, ↓b_0l, ↓b_0, ↓b_1, ↓b_2, m_tk, ↓reduceIte, cond_true, cond_false, Option.bind_some, i_1_0, hat, w0, g9, ↓bI y1, m_bf, i_11, i_01, i_1_0, i_0_1, not_true, not_false_eq_true, if_true, if_false, Bool.true_eq_false, Bool.false_eq_true, decide_true, decide_false]
          rw [e_Md_perform_29, if_pos rfl]
        · unfold pPf
          rw [if_neg c0]
          refine wf_end owf h6 ?_
          split
          · rename_i h3; exact k5 h3
          · split <;> omega
end MJ
