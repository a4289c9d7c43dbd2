/-! THE MODEL ACTS -/
def thv (j : Nat) (x : sTm) : Prop := tv x.1 x.2 ∨ (j < 36 ∧ ∃ a, a < 2013 ∧ x = (9, [a]))
/-- what every reached state keeps -/
def wf (S : sS2) : Prop := bd S.1 ∧ (∀ i, i < 6 → ¬ S.1 1 i = 1 → S.1 2 i = 0 ∧ S.1 5 i = 0 ∧ S.2 0 i = (10, [])) ∧ (∀ i, i < 6 → S.1 1 i = 1 → tv (S.2 0 i).1 (S.2 0 i).2) ∧ (∀ i, i < 6 → S.1 1 i = 2 → S.1 3 i < 2013) ∧ (∀ i, i < 6 → S.1 4 i / 2 ^ i % 2 = 0) ∧ (∀ i, i < 6 → ∀ k, k < S.1 5 i → tv (S.2 (1 + i) k).1 (S.2 (1 + i) k).2) ∧ (∀ j, j < 42 → ∀ k, k < S.1 6 j → thv j (S.2 (10 + j) k)) ∧ (∀ p, p < 3 → ¬ S.1 0 p = 0 → pAll (fun k => nI (S.1 (10 + p) k)) (S.1 7 p) 60 0 = none) ∧ (∀ i, i < 6 → S.1 1 i = 1 → pAll (fun k => nI (S.1 (13 + i) k)) (S.1 7 (3 + i)) 60 0 = none)
def fZ (f f' : mF) : Prop := ∀ x k, (x < 139 ∨ 156 ≤ x ∨ (x = 139 ∧ k ≠ 19 ∧ k ≠ 20)) → f' x k = f x k
def gZ (g g' : mG) : Prop := ∀ x k, (x < 139 ∨ 156 ≤ x) → g' x k = g x k
theorem fZ_r (f : mF) : fZ f f := fun _ _ _ => rfl
theorem gZ_r (g : mG) : gZ g g := fun _ _ _ => rfl
theorem fZ_t {f f' f'' : mF} (h : fZ f f') (h' : fZ f' f'') : fZ f f'' := fun x k a => (h' x k a).trans (h x k a)
theorem gZ_t {f f' f'' : mG} (h : gZ f f') (h' : gZ f' f'') : gZ f f'' := fun x k a => (h' x k a).trans (h x k a)
theorem fZ_M {D : Nat} {f f' : mF} (h : fM D f f') : fZ f f' := fun x k a => h x k (by omega) (by omega)
theorem gZ_M {D : Nat} {f f' : mG} (h : gM D f f') : gZ f f' := fun x k a => h x k (by omega)
theorem fZ_Q {f f' : mF} (h : fQ f f') : fZ f f' := fun x k a => h x k (by omega) (by omega)
theorem gZ_Q {f f' : mG} (h : gQ f f') : gZ f f' := fun x k a => h x k (by omega) (by omega)
theorem fZ_m {f f' : mF} (h : frm f f') : fZ f f' := fun x k a => h x k (by omega)
theorem gZ_m {f f' : mG} (h : frmg f f') : gZ f f' := fun x k a => h x k (by omega)
theorem fZ_u {f f' : mF} {k : Nat} {v : Int32} (h : fZ f f') (hk : k = 19 ∨ k = 20) : fZ f (m_u f' 139 k v) := fun x j a => by rw [m_un (by omega)]; exact h x j a
theorem mA_Q {f f' : mF} {g g' : mG} {a : sA} {b : sQ} (h : mA f g a b) (hf : fQ f f') (hg : gQ g g') : mA f' g' a b := by
  refine mA_fr (fun x k h1 h2 => hf x k (by omega) (by omega)) ?_ (fun x k h1 h2 => hg x k (by omega) (by omega)) h
  obtain ⟨fo, h1, h2⟩ := h.2.2.2.2.2.2.2.2.2.2.2.2
  exact ⟨fo, h1, by rw [hf _ _ (by omega) (by omega)]; exact h2⟩
theorem mA_u {f : mF} {g : mG} {a : sA} {b : sQ} {k : Nat} {v : Int32} (h : mA f g a b) (hk : k = 19 ∨ k = 20) : mA (m_u f 139 k v) g a b := mA_Q h (fQ_u (fQ_r f) hk) (gQ_r g)
def mRR (B self j : Nat) (f : mF) (g : mG) (o : sO) (f' : mF) (g' : mG) : Prop :=
  mA f' g' (if o.1 = 3 then pEnd o.2.2.1 self o.2.1 else o.2.2.1).1 (if o.1 = 3 then pEnd o.2.2.1 self o.2.1 else o.2.2.1).2 ∧ f' 139 20 = nI (trC o.1) ∧ (o.1 = 0 → f' 139 19 = nI (B + j) ∧ (∀ v, v < 6 → g' 152 v = mTh (o.2.2.2.1 v)) ∧ g' 155 4 = mTh o.2.2.2.2) ∧ fZ f f' ∧ gZ g g'
/-- the text of an actor -/
def tA (S : sS2) (self n : Nat) (w : Nat → Int32) : Prop := S.1 7 (3 + self) = n ∧ n ≤ 60 ∧ ∀ k, k < n → w k = nI (S.1 (13 + self) k)
theorem tX_A {f : mF} {g : mG} {S : sS2} {self n B : Nat} {w : Nat → Int32} (hm : mA f g S.1 S.2) (h : tA S self n w) (h6 : self < 6) (hB : B = 60 * (3 + self)) : tX f B n w := by
  obtain ⟨h1, h2, h3⟩ := h
  refine ⟨by omega, fun k hk => ?_⟩
  have := hm.2.2.2.2.2.2.2.2.2.2.2.1 (3 + self) (by omega) k (by omega) (by omega)
  rw [hB, this, h3 k hk, show 10 + (3 + self) = 13 + self by omega]
theorem tA_e {S S' : sS2} {self n : Nat} {w : Nat → Int32} (h : tA S self n w) (h7 : S'.1 7 (3 + self) = S.1 7 (3 + self)) (hr : ∀ k, S'.1 (13 + self) k = S.1 (13 + self) k) : tA S' self n w := ⟨h7.trans h.1, h.2.1, fun k hk => by rw [hr k]; exact h.2.2 k hk⟩
theorem tA_mk {S : sS2} {self n p q : Nat} {b : sQ} {w : Nat → Int32} (h : tA S self n w) (hne : ¬ self = q) : tA (mkA S.1 p q, b) self n w := by
  refine tA_e h ?_ (fun k => ?_)
  · show aU (aU (aCp S.1 p q) 7 (3 + q) (S.1 7 p)) 1 q 1 7 (3 + self) = _
    rw [aU_n (.inl (by decide)), aU_n (by omega), aCp_n (by omega)]
  · show aU (aU (aCp S.1 p q) 7 (3 + q) (S.1 7 p)) 1 q 1 (13 + self) k = _
    rw [aU_n (by omega), aU_n (by omega), aCp_n (by omega)]
theorem tA_put {S : sS2} {self n j : Nat} {x : sTm} {w : Nat → Int32} (h : tA S self n w) : tA (pPut S j x) self n w := tA_e h (pPut_a (by omega)) (fun k => pPut_a (by omega))
theorem tA_lk {S : sS2} {self n x y : Nat} {w : Nat → Int32} (h : tA S self n w) : tA (pLink S x y) self n w := tA_e h (pLink_1 (by omega)) (fun k => pLink_1 (by omega))
section MI
variable {xs : List Int32} {t u c s d n B self : Nat} {w : Nat → Int32} {va : Nat → sTm} {S : sS2} {ns : sTm}
theorem m_actorOf2 {x : sTm} {M : aM} (hd : 2 ≤ d) (hx : tv x.1 x.2) : am_Y d 134 [.long (mTh x)] M = some (.inl (some (.int (if isR x.1 x.2 then nI (x.2.getD 0 0 - 2007) else -1))), M) := by
  rw [mTh_t hx]; exact t_actorOf hd hx
theorem m_leafOf2 {x : sTm} {M : aM} (hd : 1 ≤ d) (hx : tv x.1 x.2) : am_Y d 117 [.long (mTh x), .int 0] M = some (.inl (some (.int (nI (x.2.getD 0 0)))), M) := by
  rw [mTh_t hx]; exact t_leafOf0 hd hx
theorem mR_0 {f f' : mF} {g g' : mG} {o : sO} {j : Nat} (h3 : ¬ o.1 = 3) (hm : mA f' g' o.2.2.1.1 o.2.2.1.2) (hw : f' 139 20 = nI o.1) (h0 : o.1 = 0 → f' 139 19 = nI (B + j) ∧ (∀ v, v < 6 → g' 152 v = mTh (o.2.2.2.1 v)) ∧ g' 155 4 = mTh o.2.2.2.2) (hf : fZ f f') (hg : gZ g g') : mRR B self j f g o f' g' := by
  refine ⟨by rw [if_neg h3]; exact hm, by unfold trC; rw [if_neg h3]; exact hw, h0, hf, hg⟩
theorem m_act42 {f : mF} {g : mG} {i j : Nat} (hd : 1 ≤ d) (h6 : self < 6) (hm : mA f g S.1 S.2) (hw0 : f 139 20 = 0) (hg : ∀ v, v < 6 → g 152 v = mTh (va v)) (hns : g 155 4 = mTh ns) (hx : tX f B n w) (h42 : w i = 42) (hi : i + 1 < n) (hj : j = i + 2) : ∃ f' g', am_Y d 133 [.ref 139, .int (nI self), .int (nI (B + i))] (mM xs f g t u c s) = some (.inl (some (.int (m_b (decide ((pA w self S va ns i).1 = 0))))), mM xs f' g' t u c s) ∧ mRR B self j f g (pA w self S va ns i) f' g' := by
  obtain ⟨d, rfl⟩ : ∃ e, d = e + 1 := ⟨d - 1, by omega⟩
  have hB := hx.1
  have w0 := hx.2 i (by omega)
  have w1 : f 140 (B + i + 1) = w (i + 1) := hx.2 (i + 1) hi
  have b1 : nI (B + i) + 1 = nI (B + i + 1) := nI_1 _
  have b2 : nI (B + i) + 2 = nI (B + j) := by rw [l_2, nI_add, hj, Nat.add_assoc]
  unfold pA
  rw [if_neg (by rw [h42]; decide), if_neg (by rw [h42]; decide), if_pos h42]
  have fin : ∀ v, v = (if w (i + 1) = 49 then 1 else 0) → mRR B self j f g (0, 0, (aU S.1 2 self (if w (i + 1) = 49 then 1 else 0), S.2), va, ns) (m_u (m_u f 147 self (nI v)) 139 19 (nI (B + j))) g := by
    intro v hv
    rw [← hv]
    exact mR_0 (show ¬ (0 : Nat) = 3 by decide) (mA_u (mA_tr hm h6) (.inl rfl)) (by rw [m_un (by omega), m_un (by omega)]; exact hw0) (fun _ => ⟨m_uu _, hg, hns⟩) (fun x k a => by rw [m_un (by omega), m_un (by omega)]) (gZ_r g)
  by_cases h9 : w (i + 1) = 49
  · refine ⟨_, _, ?_, fin 1 (by rw [if_pos h9])⟩
    rw [show nI 1 = 1 from rfl]
    simp (maxSteps := 4000000) (disch := first | omega | assumption) only [↓b_ix, ↓b_l3, ↓b_a3_0, ↓b_a3_1, ↓b_a3_2, ↓b_l4, ↓b_a4_0, ↓b_a4_1, ↓b_a4_2, ↓b_a4_3, ↓b_l129, ↓b_a129_0, ↓b_l130, ↓b_i130_1, ↓b_wi130_1, ↓b_l133, ↓b_a133_0, ↓b_a133_1, ↓b_i133_2, ↓b_wi133_2, ↓b_j133_3, ↓b_wj133_3, ↓b_i133_4, ↓b_wi133_4, ↓b_l134, ↓b_a134_0, ↓b_a134_1, ↓b_i134_2, ↓b_wi134_2, ↓b_i134_3, ↓b_wi134_3, ↓b_l135, ↓b_i135_1, ↓b_wi135_1, ↓b_l139, ↓b_a139_0, ↓b_a139_1, ↓b_a139_2, ↓b_a139_3, ↓b_a139_4, ↓b_a139_5, ↓b_a139_6, ↓b_a139_7, ↓b_a139_8, ↓b_a139_9, ↓b_a139_10, ↓b_a139_11, ↓b_a139_12, ↓b_a139_13, ↓b_a139_14, ↓b_i139_15, ↓b_wi139_15, ↓b_i139_16, ↓b_wi139_16, ↓b_i139_17, ↓b_wi139_17, ↓b_a139_18, ↓b_i139_19, ↓b_wi139_19, ↓b_i139_20, ↓b_wi139_20, ↓b_i139_21, ↓b_wi139_21, ↓b_l6, ↓b_i6, ↓b_wi6, ↓b_l140, ↓b_i140, ↓b_wi140, ↓b_l141, ↓b_i141, ↓b_wi141, ↓b_l142, ↓b_i142, ↓b_wi142, ↓b_l143, ↓b_i143, ↓b_wi143, ↓b_l144, ↓b_j144, ↓b_wj144, ↓b_l145, ↓b_j145, ↓b_wj145, ↓b_l146, ↓b_i146, ↓b_wi146, ↓b_l147, ↓b_i147, ↓b_wi147, ↓b_l148, ↓b_i148, ↓b_wi148, ↓b_l149, ↓b_i149, ↓b_wi149, ↓b_l150, ↓b_j150, ↓b_wj150, ↓b_l151, ↓b_i151, ↓b_wi151, ↓b_l152, ↓b_j152, ↓b_wj152, ↓b_l153, ↓b_i153, ↓b_wi153, ↓b_l154, ↓b_i154, ↓b_wi154, ↓b_l155, ↓b_j155, ↓b_wj155, ↓b_l156, ↓b_j156, ↓b_wj156, ↓b_l138, ↓b_j138, ↓b_wj138, ↓b_a5, ↓b_a13, ↓b_a44, ↓b_lA, ↓b_aA_0, ↓b_aA_1, ↓b_iA_2, ↓b_wiA_2, ↓b_iA_4, ↓b_wiA_4, ↓b_iA_5, ↓b_wiA_5, ↓b_iA_6, ↓b_wiA_6, ↓b_jA_3, ↓b_wjA_3, ↓b_lT, ↓b_lTc, ↓b_aT, ↓b_iT, ↓b_wiT, ↓b_iTc, ↓b_wiTc, ↓b_lW, ↓b_lWc, ↓b_aW, ↓b_iW, ↓b_wiW, ↓b_jWc, ↓b_wjWc, ↓b_rt, ↓b_ru, ↓b_wt, ↓b_wu, ↓b_0l, ↓b_0, ↓b_1, ↓b_2, m_tk, ↓reduceIte, cond_true, cond_false, Option.bind_some, y_Md_act, e_Md_act_0, e_Md_act_35, e_Md_act_36, e_Md_act_46, e_Md_act_96, e_Md_act_97, e_Md_act_109, e_Md_act_152, e_Md_act_171, e_Md_act_204, e_Md_act_226, e_Md_act_230, e_Md_act_231, e_Md_act_250, e_Md_act_264, e_Md_act_280, e_Md_act_281, e_Md_act_314, e_Md_act_332, e_Md_act_349, e_Md_act_350, w0, h42, w1, b1, b2, h9, i_11, i_11, i_01, i_1_0, i_0_1, not_true, not_false_eq_true, if_true, if_false, Bool.true_eq_false, Bool.false_eq_true, decide_true, decide_false]
    rfl
  · refine ⟨_, _, ?_, fin 0 (by rw [if_neg h9])⟩
    rw [show nI 0 = 0 from rfl]
    simp (maxSteps := 4000000) (disch := first | omega | assumption) only [↓b_ix, ↓b_l3, ↓b_a3_0, ↓b_a3_1, ↓b_a3_2, ↓b_l4, ↓b_a4_0, ↓b_a4_1, ↓b_a4_2, ↓b_a4_3, ↓b_l129, ↓b_a129_0, ↓b_l130, ↓b_i130_1, ↓b_wi130_1, ↓b_l133, ↓b_a133_0, ↓b_a133_1, ↓b_i133_2, ↓b_wi133_2, ↓b_j133_3, ↓b_wj133_3, ↓b_i133_4, ↓b_wi133_4, ↓b_l134, ↓b_a134_0, ↓b_a134_1, ↓b_i134_2, ↓b_wi134_2, ↓b_i134_3, ↓b_wi134_3, ↓b_l135, ↓b_i135_1, ↓b_wi135_1, ↓b_l139, ↓b_a139_0, ↓b_a139_1, ↓b_a139_2, ↓b_a139_3, ↓b_a139_4, ↓b_a139_5, ↓b_a139_6, ↓b_a139_7, ↓b_a139_8, ↓b_a139_9, ↓b_a139_10, ↓b_a139_11, ↓b_a139_12, ↓b_a139_13, ↓b_a139_14, ↓b_i139_15, ↓b_wi139_15, ↓b_i139_16, ↓b_wi139_16, ↓b_i139_17, ↓b_wi139_17, ↓b_a139_18, ↓b_i139_19, ↓b_wi139_19, ↓b_i139_20, ↓b_wi139_20, ↓b_i139_21, ↓b_wi139_21, ↓b_l6, ↓b_i6, ↓b_wi6, ↓b_l140, ↓b_i140, ↓b_wi140, ↓b_l141, ↓b_i141, ↓b_wi141, ↓b_l142, ↓b_i142, ↓b_wi142, ↓b_l143, ↓b_i143, ↓b_wi143, ↓b_l144, ↓b_j144, ↓b_wj144, ↓b_l145, ↓b_j145, ↓b_wj145, ↓b_l146, ↓b_i146, ↓b_wi146, ↓b_l147, ↓b_i147, ↓b_wi147, ↓b_l148, ↓b_i148, ↓b_wi148, ↓b_l149, ↓b_i149, ↓b_wi149, ↓b_l150, ↓b_j150, ↓b_wj150, ↓b_l151, ↓b_i151, ↓b_wi151, ↓b_l152, ↓b_j152, ↓b_wj152, ↓b_l153, ↓b_i153, ↓b_wi153, ↓b_l154, ↓b_i154, ↓b_wi154, ↓b_l155, ↓b_j155, ↓b_wj155, ↓b_l156, ↓b_j156, ↓b_wj156, ↓b_l138, ↓b_j138, ↓b_wj138, ↓b_a5, ↓b_a13, ↓b_a44, ↓b_lA, ↓b_aA_0, ↓b_aA_1, ↓b_iA_2, ↓b_wiA_2, ↓b_iA_4, ↓b_wiA_4, ↓b_iA_5, ↓b_wiA_5, ↓b_iA_6, ↓b_wiA_6, ↓b_jA_3, ↓b_wjA_3, ↓b_lT, ↓b_lTc, ↓b_aT, ↓b_iT, ↓b_wiT, ↓b_iTc, ↓b_wiTc, ↓b_lW, ↓b_lWc, ↓b_aW, ↓b_iW, ↓b_wiW, ↓b_jWc, ↓b_wjWc, ↓b_rt, ↓b_ru, ↓b_wt, ↓b_wu, ↓b_0l, ↓b_0, ↓b_1, ↓b_2, m_tk, ↓reduceIte, cond_true, cond_false, Option.bind_some, y_Md_act, e_Md_act_0, e_Md_act_35, e_Md_act_36, e_Md_act_46, e_Md_act_96, e_Md_act_97, e_Md_act_109, e_Md_act_152, e_Md_act_171, e_Md_act_204, e_Md_act_226, e_Md_act_230, e_Md_act_231, e_Md_act_250, e_Md_act_264, e_Md_act_280, e_Md_act_281, e_Md_act_314, e_Md_act_332, e_Md_act_349, e_Md_act_350, w0, h42, w1, b1, b2, h9, i_01, i_11, i_01, i_1_0, i_0_1, not_true, not_false_eq_true, if_true, if_false, Bool.true_eq_false, Bool.false_eq_true, decide_true, decide_false]
    rfl
theorem m_act64 {f : mF} {g : mG} {i j : Nat} (hd : 4 ≤ d) (h6 : self < 6) (hm : mA f g S.1 S.2) (hwf : wf S) (hal : S.1 1 self = 1) (hns : g 155 4 = mTh ns) (hg : ∀ v, v < 6 → g 152 v = mTh (va v)) (hta : tA S self n w) (h64 : w i = 64) (hi : i + 2 < n) (h3 : 48 ≤ w (i + 1) ∧ w (i + 1) ≤ 50) (hv : isV (w (i + 2)) = true) (hj : j = i + 3) (hBs : B = 60 * (3 + self)) : ∃ f' g', am_Y d 133 [.ref 139, .int (nI self), .int (nI (B + i))] (mM xs f g t u c s) = some (.inl (some (.int (m_b (decide ((pA w self S va ns i).1 = 0))))), mM xs f' g' t u c s) ∧ mRR B self j f g (pA w self S va ns i) f' g' := by
  obtain ⟨d, rfl⟩ : ∃ e, d = e + 1 := ⟨d - 1, by omega⟩
  have h1 : 1 ≤ d := by omega
  have h2 : 2 ≤ d := by omega
  have hx := tX_A hm hta h6 hBs
  have hB := hx.1
  have hb := hwf.1
  have w0 := hx.2 i (by omega)
  have w1 : f 140 (B + i + 1) = w (i + 1) := hx.2 (i + 1) (by omega)
  have b1 : nI (B + i) + 1 = nI (B + i + 1) := nI_1 _
  have b2 : nI (B + i) + 2 = nI (B + i + 2) := by rw [l_2, nI_add]
  have b3 : nI (B + i) + 3 = nI (B + j) := by rw [l_3, nI_add, hj, Nat.add_assoc]
  obtain ⟨d1, d2, d3⟩ := isV_of3 h3
  obtain ⟨v1, v2⟩ := vN_s hv
  have n42 : ¬ w i = 42 := by rw [h64]; decide
  have hm1 : ∀ v, mA (m_u f 139 19 v) g S.1 S.2 := fun v => mA_u hm (.inl rfl)
  have ck : m_u f 139 19 (nI (B + j)) 142 (dg (w (i + 1))) = nI (S.1 0 (dg (w (i + 1)))) := (hm1 _).1 _ d2
  have ck1 := hb.2.2.2 _ d2
  unfold pA
  rw [if_neg (by rw [h64]; decide), if_pos h64]
  have frr := m_free (xs := xs) (t := t) (u := u) (c := c) (s := s) h1 (hm1 (nI (B + j))) hb
  have bad : ∀ F : mF, F = m_u (m_u f 139 19 (nI (B + j))) 139 20 1 → mRR B self j f g (1, 0, S, va, ns) F g := by
    intro F hF
    subst hF
    exact mR_0 (show ¬ (1 : Nat) = 3 by decide) (mA_u (hm1 _) (.inr rfl)) (m_uu _) (fun h => (nomatch (show (1 : Nat) = 0 from h))) (fZ_u (fZ_u (fZ_r f) (.inl rfl)) (.inr rfl)) (gZ_r g)
  by_cases hck : S.1 0 (dg (w (i + 1))) = 0
  · have hmk : pMake S (dg (w (i + 1))) (0, [999]) = none := by unfold pMake; rw [if_pos hck]
    rw [hmk]
    refine ⟨_, _, ?_, bad _ rfl⟩
    simp (maxSteps := 4000000) (disch := first | omega | assumption) only [↓b_ix, ↓b_l3, ↓b_a3_0, ↓b_a3_1, ↓b_a3_2, ↓b_l4, ↓b_a4_0, ↓b_a4_1, ↓b_a4_2, ↓b_a4_3, ↓b_l129, ↓b_a129_0, ↓b_l130, ↓b_i130_1, ↓b_wi130_1, ↓b_l133, ↓b_a133_0, ↓b_a133_1, ↓b_i133_2, ↓b_wi133_2, ↓b_j133_3, ↓b_wj133_3, ↓b_i133_4, ↓b_wi133_4, ↓b_l134, ↓b_a134_0, ↓b_a134_1, ↓b_i134_2, ↓b_wi134_2, ↓b_i134_3, ↓b_wi134_3, ↓b_l135, ↓b_i135_1, ↓b_wi135_1, ↓b_l139, ↓b_a139_0, ↓b_a139_1, ↓b_a139_2, ↓b_a139_3, ↓b_a139_4, ↓b_a139_5, ↓b_a139_6, ↓b_a139_7, ↓b_a139_8, ↓b_a139_9, ↓b_a139_10, ↓b_a139_11, ↓b_a139_12, ↓b_a139_13, ↓b_a139_14, ↓b_i139_15, ↓b_wi139_15, ↓b_i139_16, ↓b_wi139_16, ↓b_i139_17, ↓b_wi139_17, ↓b_a139_18, ↓b_i139_19, ↓b_wi139_19, ↓b_i139_20, ↓b_wi139_20, ↓b_i139_21, ↓b_wi139_21, ↓b_l6, ↓b_i6, ↓b_wi6, ↓b_l140, ↓b_i140, ↓b_wi140, ↓b_l141, ↓b_i141, ↓b_wi141, ↓b_l142, ↓b_i142, ↓b_wi142, ↓b_l143, ↓b_i143, ↓b_wi143, ↓b_l144, ↓b_j144, ↓b_wj144, ↓b_l145, ↓b_j145, ↓b_wj145, ↓b_l146, ↓b_i146, ↓b_wi146, ↓b_l147, ↓b_i147, ↓b_wi147, ↓b_l148, ↓b_i148, ↓b_wi148, ↓b_l149, ↓b_i149, ↓b_wi149, ↓b_l150, ↓b_j150, ↓b_wj150, ↓b_l151, ↓b_i151, ↓b_wi151, ↓b_l152, ↓b_j152, ↓b_wj152, ↓b_l153, ↓b_i153, ↓b_wi153, ↓b_l154, ↓b_i154, ↓b_wi154, ↓b_l155, ↓b_j155, ↓b_wj155, ↓b_l156, ↓b_j156, ↓b_wj156, ↓b_l138, ↓b_j138, ↓b_wj138, ↓b_a5, ↓b_a13, ↓b_a44, ↓b_lA, ↓b_aA_0, ↓b_aA_1, ↓b_iA_2, ↓b_wiA_2, ↓b_iA_4, ↓b_wiA_4, ↓b_iA_5, ↓b_wiA_5, ↓b_iA_6, ↓b_wiA_6, ↓b_jA_3, ↓b_wjA_3, ↓b_lT, ↓b_lTc, ↓b_aT, ↓b_iT, ↓b_wiT, ↓b_iTc, ↓b_wiTc, ↓b_lW, ↓b_lWc, ↓b_aW, ↓b_iW, ↓b_wiW, ↓b_jWc, ↓b_wjWc, ↓b_rt, ↓b_ru, ↓b_wt, ↓b_wu, ↓b_0l, ↓b_0, ↓b_1, ↓b_2, m_tk, ↓reduceIte, cond_true, cond_false, Option.bind_some, y_Md_act, e_Md_act_0, e_Md_act_35, e_Md_act_36, e_Md_act_46, e_Md_act_96, e_Md_act_97, e_Md_act_109, e_Md_act_152, e_Md_act_171, e_Md_act_204, e_Md_act_226, e_Md_act_230, e_Md_act_231, e_Md_act_250, e_Md_act_264, e_Md_act_280, e_Md_act_281, e_Md_act_314, e_Md_act_332, e_Md_act_349, e_Md_act_350, w0, h64, n42, show ¬ (64 : Int32) = 42 by decide, w1, b1, b3, d3, ck, hck, nI_0, m_uu, i_1_0, i_11, i_01, i_1_0, i_0_1, not_true, not_false_eq_true, if_true, if_false, Bool.true_eq_false, Bool.false_eq_true, decide_true, decide_false]
    rfl
  · have nck : ¬ nI (S.1 0 (dg (w (i + 1)))) = 0 := by rw [l_0, nI_eq (by omega) (by omega)]; exact hck
    cases hf : fFree S.1 6 0 with
    | none =>
      rw [hf] at frr
      have hmk : pMake S (dg (w (i + 1))) (0, [999]) = none := by unfold pMake; rw [if_neg hck, hf]
      rw [hmk]
      refine ⟨_, _, ?_, bad _ rfl⟩
      simp (maxSteps := 4000000) (disch := first | omega | assumption) only [↓b_ix, ↓b_l3, ↓b_a3_0, ↓b_a3_1, ↓b_a3_2, ↓b_l4, ↓b_a4_0, ↓b_a4_1, ↓b_a4_2, ↓b_a4_3, ↓b_l129, ↓b_a129_0, ↓b_l130, ↓b_i130_1, ↓b_wi130_1, ↓b_l133, ↓b_a133_0, ↓b_a133_1, ↓b_i133_2, ↓b_wi133_2, ↓b_j133_3, ↓b_wj133_3, ↓b_i133_4, ↓b_wi133_4, ↓b_l134, ↓b_a134_0, ↓b_a134_1, ↓b_i134_2, ↓b_wi134_2, ↓b_i134_3, ↓b_wi134_3, ↓b_l135, ↓b_i135_1, ↓b_wi135_1, ↓b_l139, ↓b_a139_0, ↓b_a139_1, ↓b_a139_2, ↓b_a139_3, ↓b_a139_4, ↓b_a139_5, ↓b_a139_6, ↓b_a139_7, ↓b_a139_8, ↓b_a139_9, ↓b_a139_10, ↓b_a139_11, ↓b_a139_12, ↓b_a139_13, ↓b_a139_14, ↓b_i139_15, ↓b_wi139_15, ↓b_i139_16, ↓b_wi139_16, ↓b_i139_17, ↓b_wi139_17, ↓b_a139_18, ↓b_i139_19, ↓b_wi139_19, ↓b_i139_20, ↓b_wi139_20, ↓b_i139_21, ↓b_wi139_21, ↓b_l6, ↓b_i6, ↓b_wi6, ↓b_l140, ↓b_i140, ↓b_wi140, ↓b_l141, ↓b_i141, ↓b_wi141, ↓b_l142, ↓b_i142, ↓b_wi142, ↓b_l143, ↓b_i143, ↓b_wi143, ↓b_l144, ↓b_j144, ↓b_wj144, ↓b_l145, ↓b_j145, ↓b_wj145, ↓b_l146, ↓b_i146, ↓b_wi146, ↓b_l147, ↓b_i147, ↓b_wi147, ↓b_l148, ↓b_i148, ↓b_wi148, ↓b_l149, ↓b_i149, ↓b_wi149, ↓b_l150, ↓b_j150, ↓b_wj150, ↓b_l151, ↓b_i151, ↓b_wi151, ↓b_l152, ↓b_j152, ↓b_wj152, ↓b_l153, ↓b_i153, ↓b_wi153, ↓b_l154, ↓b_i154, ↓b_wi154, ↓b_l155, ↓b_j155, ↓b_wj155, ↓b_l156, ↓b_j156, ↓b_wj156, ↓b_l138, ↓b_j138, ↓b_wj138, ↓b_a5, ↓b_a13, ↓b_a44, ↓b_lA, ↓b_aA_0, ↓b_aA_1, ↓b_iA_2, ↓b_wiA_2, ↓b_iA_4, ↓b_wiA_4, ↓b_iA_5, ↓b_wiA_5, ↓b_iA_6, ↓b_wiA_6, ↓b_jA_3, ↓b_wjA_3, ↓b_lT, ↓b_lTc, ↓b_aT, ↓b_iT, ↓b_wiT, ↓b_iTc, ↓b_wiTc, ↓b_lW, ↓b_lWc, ↓b_aW, ↓b_iW, ↓b_wiW, ↓b_jWc, ↓b_wjWc, ↓b_rt, ↓b_ru, ↓b_wt, ↓b_wu, ↓b_0l, ↓b_0, ↓b_1, ↓b_2, m_tk, ↓reduceIte, cond_true, cond_false, Option.bind_some, y_Md_act, e_Md_act_0, e_Md_act_35, e_Md_act_36, e_Md_act_46, e_Md_act_96, e_Md_act_97, e_Md_act_109, e_Md_act_152, e_Md_act_171, e_Md_act_204, e_Md_act_226, e_Md_act_230, e_Md_act_231, e_Md_act_250, e_Md_act_264, e_Md_act_280, e_Md_act_281, e_Md_act_314, e_Md_act_332, e_Md_act_349, e_Md_act_350, w0, h64, n42, show ¬ (64 : Int32) = 42 by decide, w1, b1, b3, d3, ck, nck, ↓bI frr, show ((6 : Int32) ≤ 6) = True from eq_true (by decide), m_uu, i_1_0, i_11, i_01, i_1_0, i_0_1, not_true, not_false_eq_true, if_true, if_false, Bool.true_eq_false, Bool.false_eq_true, decide_true, decide_false]
      rfl
    | some q =>
      rw [hf] at frr
      obtain ⟨_, q6, q0⟩ := fFree_s 6 0 q hf
      have q6 : q < 6 := by omega
      have hmk : pMake S (dg (w (i + 1))) (0, [999]) = some (q, (mkA S.1 (dg (w (i + 1))) q, bU S.2 0 q (0, [999]))) := by unfold pMake; rw [if_neg hck, hf]
      rw [hmk]
      have hq := hwf.2.1 q q6 (by rw [q0]; decide)
      have hne : ¬ self = q := fun e => by rw [e, q0] at hal; exact absurd hal (by decide)
      have hm2 : mA (m_u (m_u f 139 19 (nI (B + j))) 139 20 0) g S.1 S.2 := mA_u (hm1 _) (.inr rfl)
      obtain ⟨f1, g1, y1, y2, y3, y4⟩ := m_make (xs := xs) (t := t) (u := u) (c := c) (s := s) (st := (0, [999])) h2 hm2 hb d2 hf hq.1 hq.2.1
      have wz := m_whole (k := 0) (M := mM xs (m_u (m_u f 139 19 (nI (B + j))) 139 20 0) g t u c s) h2 (by decide)
      rw [show nI 0 = 0 from rfl] at wz
      have al : (mkA S.1 (dg (w (i + 1))) q, bU S.2 0 q (0, [999])).1 1 q = 1 := aU_s
      obtain ⟨f2, z1, z2, z3⟩ := m_pLink (xs := xs) (t := t) (u := u) (c := c) (s := s) (S := (mkA S.1 (dg (w (i + 1))) q, bU S.2 0 q (0, [999]))) h1 y2 (bd_mk hb d2) h6 q6 hne al
      have hx2 := tX_A z2 (tA_lk (tA_mk hta hne)) h6 hBs
      have w2 : f2 140 (B + i + 2) = w (i + 2) := hx2.2 (i + 2) hi
      have vv : 0 ≤ nI (vN (w (i + 2))) := nI_pos' (by omega)
      have ma := m_actor (M := mM xs f2 g1 t u c s) h2 q6
      have nq : ¬ 6 ≤ nI q := by rw [l_6, nI_leI (by omega) (by omega)]; omega
      refine ⟨f2, m_w g1 152 (vN (w (i + 2))) (mTh (0, [2007 + q])), ?_, mR_0 (show ¬ (0 : Nat) = 3 by decide) (mA_Q z2 (fQ_r f2) (fun x k a b => m_wn (by omega))) ?_ (fun _ => ⟨?_, ?_, ?_⟩) ?_ ?_⟩
      · simp (maxSteps := 4000000) (disch := first | omega | assumption) only [↓b_ix, ↓b_l3, ↓b_a3_0, ↓b_a3_1, ↓b_a3_2, ↓b_l4, ↓b_a4_0, ↓b_a4_1, ↓b_a4_2, ↓b_a4_3, ↓b_l129, ↓b_a129_0, ↓b_l130, ↓b_i130_1, ↓b_wi130_1, ↓b_l133, ↓b_a133_0, ↓b_a133_1, ↓b_i133_2, ↓b_wi133_2, ↓b_j133_3, ↓b_wj133_3, ↓b_i133_4, ↓b_wi133_4, ↓b_l134, ↓b_a134_0, ↓b_a134_1, ↓b_i134_2, ↓b_wi134_2, ↓b_i134_3, ↓b_wi134_3, ↓b_l135, ↓b_i135_1, ↓b_wi135_1, ↓b_l139, ↓b_a139_0, ↓b_a139_1, ↓b_a139_2, ↓b_a139_3, ↓b_a139_4, ↓b_a139_5, ↓b_a139_6, ↓b_a139_7, ↓b_a139_8, ↓b_a139_9, ↓b_a139_10, ↓b_a139_11, ↓b_a139_12, ↓b_a139_13, ↓b_a139_14, ↓b_i139_15, ↓b_wi139_15, ↓b_i139_16, ↓b_wi139_16, ↓b_i139_17, ↓b_wi139_17, ↓b_a139_18, ↓b_i139_19, ↓b_wi139_19, ↓b_i139_20, ↓b_wi139_20, ↓b_i139_21, ↓b_wi139_21, ↓b_l6, ↓b_i6, ↓b_wi6, ↓b_l140, ↓b_i140, ↓b_wi140, ↓b_l141, ↓b_i141, ↓b_wi141, ↓b_l142, ↓b_i142, ↓b_wi142, ↓b_l143, ↓b_i143, ↓b_wi143, ↓b_l144, ↓b_j144, ↓b_wj144, ↓b_l145, ↓b_j145, ↓b_wj145, ↓b_l146, ↓b_i146, ↓b_wi146, ↓b_l147, ↓b_i147, ↓b_wi147, ↓b_l148, ↓b_i148, ↓b_wi148, ↓b_l149, ↓b_i149, ↓b_wi149, ↓b_l150, ↓b_j150, ↓b_wj150, ↓b_l151, ↓b_i151, ↓b_wi151, ↓b_l152, ↓b_j152, ↓b_wj152, ↓b_l153, ↓b_i153, ↓b_wi153, ↓b_l154, ↓b_i154, ↓b_wi154, ↓b_l155, ↓b_j155, ↓b_wj155, ↓b_l156, ↓b_j156, ↓b_wj156, ↓b_l138, ↓b_j138, ↓b_wj138, ↓b_a5, ↓b_a13, ↓b_a44, ↓b_lA, ↓b_aA_0, ↓b_aA_1, ↓b_iA_2, ↓b_wiA_2, ↓b_iA_4, ↓b_wiA_4, ↓b_iA_5, ↓b_wiA_5, ↓b_iA_6, ↓b_wiA_6, ↓b_jA_3, ↓b_wjA_3, ↓b_lT, ↓b_lTc, ↓b_aT, ↓b_iT, ↓b_wiT, ↓b_iTc, ↓b_wiTc, ↓b_lW, ↓b_lWc, ↓b_aW, ↓b_iW, ↓b_wiW, ↓b_jWc, ↓b_wjWc, ↓b_rt, ↓b_ru, ↓b_wt, ↓b_wu, ↓b_0l, ↓b_0, ↓b_1, ↓b_2, m_tk, ↓reduceIte, cond_true, cond_false, Option.bind_some, y_Md_act, e_Md_act_0, e_Md_act_35, e_Md_act_36, e_Md_act_46, e_Md_act_96, e_Md_act_97, e_Md_act_109, e_Md_act_152, e_Md_act_171, e_Md_act_204, e_Md_act_226, e_Md_act_230, e_Md_act_231, e_Md_act_250, e_Md_act_264, e_Md_act_280, e_Md_act_281, e_Md_act_314, e_Md_act_332, e_Md_act_349, e_Md_act_350, w0, h64, n42, show ¬ (64 : Int32) = 42 by decide, w1, b1, b2, b3, d3, ck, nck, ↓bI frr, nq, m_uu, ↓bJ wz, ↓bI y1, ↓bV z1, w2, ↓bI (c_mvariableOf h2), v1, ↓bJ ma, i_11, i_01, i_1_0, i_0_1, not_true, not_false_eq_true, if_true, if_false, Bool.true_eq_false, Bool.false_eq_true, decide_true, decide_false]
        rfl
      · rw [z3 _ _ (by omega), y3 _ _ (by omega), m_uu]; rfl
      · rw [z3 _ _ (by omega), y3 _ _ (by omega), m_un (by omega), m_uu]
      · exact gv_u (fun k hk => by rw [y4 _ _ (by omega)]; exact hg k hk) v2
      · rw [m_wn (by omega), y4 _ _ (by omega)]; exact hns
      · exact fZ_t (fZ_u (fZ_u (fZ_r f) (.inl rfl)) (.inr rfl)) (fZ_t (fZ_m y3) (fZ_m z3))
      · exact fun x k a => by rw [m_wn (by omega), y4 _ _ (by omega)]
theorem m_actE {f : mF} {g : mG} {i j : Nat} (hd : 6 ≤ d) (h6 : self < 6) (hm : mA f g S.1 S.2) (hwf : wf S) (hal : S.1 1 self = 1) (hns : g 155 4 = mTh ns) (hg : ∀ v, v < 6 → g 152 v = mTh (va v)) (hV : ∀ v, v < 6 → vV (va v)) (hta : tA S self n w) (hBs : B = 60 * (3 + self)) (hi : i < n) (hxx : w i = 126 ∨ w i = 38 ∨ w i = 36) (a1 : xp w n 4 (i + 1) j) : ∃ f' g', am_Y d 133 [.ref 139, .int (nI self), .int (nI (B + i))] (mM xs f g t u c s) = some (.inl (some (.int (m_b (decide ((pA w self S va ns i).1 = 0))))), mM xs f' g' t u c s) ∧ mRR B self j f g (pA w self S va ns i) f' g' := by
  obtain ⟨d, rfl⟩ : ∃ e, d = e + 1 := ⟨d - 1, by omega⟩
  have h1 : 1 ≤ d := by omega
  have h2 : 2 ≤ d := by omega
  have hx := tX_A hm hta h6 hBs
  have hB := hx.1
  have hn := hta.2.1
  have hb := hwf.1
  have w0 := hx.2 i hi
  have b1 : nI (B + i) + 1 = nI (B + (i + 1)) := by rw [nI_1, Nat.add_assoc]
  have e33 : ¬ w i = 33 := by rcases hxx with h | h | h <;> (rw [h]; decide)
  have e64 : ¬ w i = 64 := by rcases hxx with h | h | h <;> (rw [h]; decide)
  have e42 : ¬ w i = 42 := by rcases hxx with h | h | h <;> (rw [h]; decide)
  obtain ⟨l1, l2, l3, l4⟩ := ev_all (va := va) h6 hV 4 a1
  obtain ⟨f1, g1, y1, y2, y3, y4, y5⟩ := m_evaluate (xs := xs) (t := t) (u := u) (c := c) (s := s) (self := self) (f := f) (g := g) (show 5 ≤ d by omega) hn h6 hV hx hg a1
  have hm1 := mA_Q hm (fQ_M y4) (gQ_M y5)
  have hns1 : g1 155 4 = mTh ns := by rw [y5 _ _ (by omega)]; exact hns
  have hg1 := gv_g hg y5
  unfold pA
  rw [if_neg e33, if_neg e64, if_neg e42]
  by_cases c1 : (ev w va self 4 (i + 1)).1.1 < 9
  · rw [if_pos c1] at y2 ⊢
    have at1 := y3 c1
    have tl := vT_9 l1 c1
    have ao := m_actorOf2 (M := mM xs f1 g1 t u c s) h2 tl
    generalize (ev w va self 4 (i + 1)).1 = v at *
    have st : am_Y (d + 1) 133 [.ref 139, .int (nI self), .int (nI (B + i))] (mM xs f g t u c s) = am_X (am_Y d) k_Md_act 250 [(0, .ref 139), (1, .int (nI self)), (3, .int (w i)), (4, .long (mTh v)), (6, .int (if isR v.1 v.2 then nI (v.2.getD 0 0 - 2007) else -1))] [] (mM xs f1 g1 t u c s) := by
      simp (maxSteps := 4000000) (disch := first | omega | assumption) only [↓b_ix, ↓b_l3, ↓b_a3_0, ↓b_a3_1, ↓b_a3_2, ↓b_l4, ↓b_a4_0, ↓b_a4_1, ↓b_a4_2, ↓b_a4_3, ↓b_l129, ↓b_a129_0, ↓b_l130, ↓b_i130_1, ↓b_wi130_1, ↓b_l133, ↓b_a133_0, ↓b_a133_1, ↓b_i133_2, ↓b_wi133_2, ↓b_j133_3, ↓b_wj133_3, ↓b_i133_4, ↓b_wi133_4, ↓b_l134, ↓b_a134_0, ↓b_a134_1, ↓b_i134_2, ↓b_wi134_2, ↓b_i134_3, ↓b_wi134_3, ↓b_l135, ↓b_i135_1, ↓b_wi135_1, ↓b_l139, ↓b_a139_0, ↓b_a139_1, ↓b_a139_2, ↓b_a139_3, ↓b_a139_4, ↓b_a139_5, ↓b_a139_6, ↓b_a139_7, ↓b_a139_8, ↓b_a139_9, ↓b_a139_10, ↓b_a139_11, ↓b_a139_12, ↓b_a139_13, ↓b_a139_14, ↓b_i139_15, ↓b_wi139_15, ↓b_i139_16, ↓b_wi139_16, ↓b_i139_17, ↓b_wi139_17, ↓b_a139_18, ↓b_i139_19, ↓b_wi139_19, ↓b_i139_20, ↓b_wi139_20, ↓b_i139_21, ↓b_wi139_21, ↓b_l6, ↓b_i6, ↓b_wi6, ↓b_l140, ↓b_i140, ↓b_wi140, ↓b_l141, ↓b_i141, ↓b_wi141, ↓b_l142, ↓b_i142, ↓b_wi142, ↓b_l143, ↓b_i143, ↓b_wi143, ↓b_l144, ↓b_j144, ↓b_wj144, ↓b_l145, ↓b_j145, ↓b_wj145, ↓b_l146, ↓b_i146, ↓b_wi146, ↓b_l147, ↓b_i147, ↓b_wi147, ↓b_l148, ↓b_i148, ↓b_wi148, ↓b_l149, ↓b_i149, ↓b_wi149, ↓b_l150, ↓b_j150, ↓b_wj150, ↓b_l151, ↓b_i151, ↓b_wi151, ↓b_l152, ↓b_j152, ↓b_wj152, ↓b_l153, ↓b_i153, ↓b_wi153, ↓b_l154, ↓b_i154, ↓b_wi154, ↓b_l155, ↓b_j155, ↓b_wj155, ↓b_l156, ↓b_j156, ↓b_wj156, ↓b_l138, ↓b_j138, ↓b_wj138, ↓b_a5, ↓b_a13, ↓b_a44, ↓b_lA, ↓b_aA_0, ↓b_aA_1, ↓b_iA_2, ↓b_wiA_2, ↓b_iA_4, ↓b_wiA_4, ↓b_iA_5, ↓b_wiA_5, ↓b_iA_6, ↓b_wiA_6, ↓b_jA_3, ↓b_wjA_3, ↓b_lT, ↓b_lTc, ↓b_aT, ↓b_iT, ↓b_wiT, ↓b_iTc, ↓b_wiTc, ↓b_lW, ↓b_lWc, ↓b_aW, ↓b_iW, ↓b_wiW, ↓b_jWc, ↓b_wjWc, ↓b_rt, ↓b_ru, ↓b_wt, ↓b_wu, ↓b_0l, ↓b_0, ↓b_1, ↓b_2, m_tk, ↓reduceIte, cond_true, cond_false, Option.bind_some, y_Md_act, e_Md_act_0, e_Md_act_35, e_Md_act_36, e_Md_act_46, e_Md_act_96, e_Md_act_97, e_Md_act_109, e_Md_act_152, e_Md_act_171, e_Md_act_204, e_Md_act_226, e_Md_act_230, e_Md_act_231, e_Md_act_264, e_Md_act_280, e_Md_act_281, e_Md_act_314, e_Md_act_332, e_Md_act_349, e_Md_act_350, w0, e42, e64, e33, b1, ↓bJ y1, y2, ↓bI ao, i_11, i_01, i_1_0, i_0_1, not_true, not_false_eq_true, if_true, if_false, Bool.true_eq_false, Bool.false_eq_true, decide_true, decide_false]
    have u20 : m_u f1 139 20 0 = f1 := m_us y2.symm
    rcases hxx with hh | hh | hh
    · rw [if_pos hh]
      refine ⟨f1, m_w g1 155 4 (mTh v), ?_, mR_0 (show ¬ (0 : Nat) = 3 by decide) (mA_fr (fun x k h1 h2 => rfl) hm1.2.2.2.2.2.2.2.2.2.2.2.2 (fun x k h1 h2 => m_wn (by omega)) hm1) y2 (fun _ => ⟨at1, fun k hk => by rw [m_wn (by omega)]; exact hg1 k hk, m_ww _⟩) (fZ_M y4) (fun x k a => by rw [m_wn (by omega)]; exact (gZ_M y5) x k a)⟩
      rw [st, hh]
      simp (maxSteps := 4000000) (disch := first | omega | assumption) only [↓b_ix, ↓b_l3, ↓b_a3_0, ↓b_a3_1, ↓b_a3_2, ↓b_l4, ↓b_a4_0, ↓b_a4_1, ↓b_a4_2, ↓b_a4_3, ↓b_l129, ↓b_a129_0, ↓b_l130, ↓b_i130_1, ↓b_wi130_1, ↓b_l133, ↓b_a133_0, ↓b_a133_1, ↓b_i133_2, ↓b_wi133_2, ↓b_j133_3, ↓b_wj133_3, ↓b_i133_4, ↓b_wi133_4, ↓b_l134, ↓b_a134_0, ↓b_a134_1, ↓b_i134_2, ↓b_wi134_2, ↓b_i134_3, ↓b_wi134_3, ↓b_l135, ↓b_i135_1, ↓b_wi135_1, ↓b_l139, ↓b_a139_0, ↓b_a139_1, ↓b_a139_2, ↓b_a139_3, ↓b_a139_4, ↓b_a139_5, ↓b_a139_6, ↓b_a139_7, ↓b_a139_8, ↓b_a139_9, ↓b_a139_10, ↓b_a139_11, ↓b_a139_12, ↓b_a139_13, ↓b_a139_14, ↓b_i139_15, ↓b_wi139_15, ↓b_i139_16, ↓b_wi139_16, ↓b_i139_17, ↓b_wi139_17, ↓b_a139_18, ↓b_i139_19, ↓b_wi139_19, ↓b_i139_20, ↓b_wi139_20, ↓b_i139_21, ↓b_wi139_21, ↓b_l6, ↓b_i6, ↓b_wi6, ↓b_l140, ↓b_i140, ↓b_wi140, ↓b_l141, ↓b_i141, ↓b_wi141, ↓b_l142, ↓b_i142, ↓b_wi142, ↓b_l143, ↓b_i143, ↓b_wi143, ↓b_l144, ↓b_j144, ↓b_wj144, ↓b_l145, ↓b_j145, ↓b_wj145, ↓b_l146, ↓b_i146, ↓b_wi146, ↓b_l147, ↓b_i147, ↓b_wi147, ↓b_l148, ↓b_i148, ↓b_wi148, ↓b_l149, ↓b_i149, ↓b_wi149, ↓b_l150, ↓b_j150, ↓b_wj150, ↓b_l151, ↓b_i151, ↓b_wi151, ↓b_l152, ↓b_j152, ↓b_wj152, ↓b_l153, ↓b_i153, ↓b_wi153, ↓b_l154, ↓b_i154, ↓b_wi154, ↓b_l155, ↓b_j155, ↓b_wj155, ↓b_l156, ↓b_j156, ↓b_wj156, ↓b_l138, ↓b_j138, ↓b_wj138, ↓b_a5, ↓b_a13, ↓b_a44, ↓b_lA, ↓b_aA_0, ↓b_aA_1, ↓b_iA_2, ↓b_wiA_2, ↓b_iA_4, ↓b_wiA_4, ↓b_iA_5, ↓b_wiA_5, ↓b_iA_6, ↓b_wiA_6, ↓b_jA_3, ↓b_wjA_3, ↓b_lT, ↓b_lTc, ↓b_aT, ↓b_iT, ↓b_wiT, ↓b_iTc, ↓b_wiTc, ↓b_lW, ↓b_lWc, ↓b_aW, ↓b_iW, ↓b_wiW, ↓b_jWc, ↓b_wjWc, ↓b_rt, ↓b_ru, ↓b_wt, ↓b_wu, ↓b_0l, ↓b_0, ↓b_1, ↓b_2, m_tk, ↓reduceIte, cond_true, cond_false, Option.bind_some, e_Md_act_250, e_Md_act_264, e_Md_act_314, e_Md_act_332, e_Md_act_349, e_Md_act_350, ↓show am_ix 4 = some 4 from rfl, show ¬ (126 : Int32) = 38 by decide, show ¬ (126 : Int32) = 36 by decide, y2, ft3_1, i_11, i_01, i_1_0, i_0_1, not_true, not_false_eq_true, if_true, if_false, Bool.true_eq_false, Bool.false_eq_true, decide_true, decide_false]
      rfl
    · have n126 : ¬ w i = 126 := by rw [hh]; decide
      have n36 : ¬ w i = 36 := by rw [hh]; decide
      rw [if_neg n126, if_neg n36]
      by_cases c2 : isR v.1 v.2 = true
      · obtain ⟨q1, _⟩ := isR_s tl c2
        rw [if_pos c2]
        rw [if_pos c2] at st
        have nn : 0 ≤ nI (v.2.getD 0 0 - 2007) := nI_pos' (by omega)
        have nn2 : ¬ nI (v.2.getD 0 0 - 2007) < 0 := nI_pos (by omega)
        have stt : f1 143 (v.2.getD 0 0 - 2007) = nI (S.1 1 (v.2.getD 0 0 - 2007)) := hm1.2.1 _ q1
        have s2 := (hb.1 _ q1).1
        by_cases c3 : v.2.getD 0 0 - 2007 = self
        · have pl : pLink S self (v.2.getD 0 0 - 2007) = S := by unfold pLink; rw [if_pos (.inl c3.symm)]
          rw [pl]
          have eq1 : (nI (v.2.getD 0 0 - 2007) = nI self) := by rw [c3]
          have np : 0 ≤ nI self := nI_pos' (by omega)
          refine ⟨f1, g1, ?_, mR_0 (show ¬ (0 : Nat) = 3 by decide) hm1 y2 (fun _ => ⟨at1, hg1, hns1⟩) (fZ_M y4) (gZ_M y5)⟩
          rw [st, hh]
          simp (maxSteps := 4000000) (disch := first | omega | assumption) only [↓b_ix, ↓b_l3, ↓b_a3_0, ↓b_a3_1, ↓b_a3_2, ↓b_l4, ↓b_a4_0, ↓b_a4_1, ↓b_a4_2, ↓b_a4_3, ↓b_l129, ↓b_a129_0, ↓b_l130, ↓b_i130_1, ↓b_wi130_1, ↓b_l133, ↓b_a133_0, ↓b_a133_1, ↓b_i133_2, ↓b_wi133_2, ↓b_j133_3, ↓b_wj133_3, ↓b_i133_4, ↓b_wi133_4, ↓b_l134, ↓b_a134_0, ↓b_a134_1, ↓b_i134_2, ↓b_wi134_2, ↓b_i134_3, ↓b_wi134_3, ↓b_l135, ↓b_i135_1, ↓b_wi135_1, ↓b_l139, ↓b_a139_0, ↓b_a139_1, ↓b_a139_2, ↓b_a139_3, ↓b_a139_4, ↓b_a139_5, ↓b_a139_6, ↓b_a139_7, ↓b_a139_8, ↓b_a139_9, ↓b_a139_10, ↓b_a139_11, ↓b_a139_12, ↓b_a139_13, ↓b_a139_14, ↓b_i139_15, ↓b_wi139_15, ↓b_i139_16, ↓b_wi139_16, ↓b_i139_17, ↓b_wi139_17, ↓b_a139_18, ↓b_i139_19, ↓b_wi139_19, ↓b_i139_20, ↓b_wi139_20, ↓b_i139_21, ↓b_wi139_21, ↓b_l6, ↓b_i6, ↓b_wi6, ↓b_l140, ↓b_i140, ↓b_wi140, ↓b_l141, ↓b_i141, ↓b_wi141, ↓b_l142, ↓b_i142, ↓b_wi142, ↓b_l143, ↓b_i143, ↓b_wi143, ↓b_l144, ↓b_j144, ↓b_wj144, ↓b_l145, ↓b_j145, ↓b_wj145, ↓b_l146, ↓b_i146, ↓b_wi146, ↓b_l147, ↓b_i147, ↓b_wi147, ↓b_l148, ↓b_i148, ↓b_wi148, ↓b_l149, ↓b_i149, ↓b_wi149, ↓b_l150, ↓b_j150, ↓b_wj150, ↓b_l151, ↓b_i151, ↓b_wi151, ↓b_l152, ↓b_j152, ↓b_wj152, ↓b_l153, ↓b_i153, ↓b_wi153, ↓b_l154, ↓b_i154, ↓b_wi154, ↓b_l155, ↓b_j155, ↓b_wj155, ↓b_l156, ↓b_j156, ↓b_wj156, ↓b_l138, ↓b_j138, ↓b_wj138, ↓b_a5, ↓b_a13, ↓b_a44, ↓b_lA, ↓b_aA_0, ↓b_aA_1, ↓b_iA_2, ↓b_wiA_2, ↓b_iA_4, ↓b_wiA_4, ↓b_iA_5, ↓b_wiA_5, ↓b_iA_6, ↓b_wiA_6, ↓b_jA_3, ↓b_wjA_3, ↓b_lT, ↓b_lTc, ↓b_aT, ↓b_iT, ↓b_wiT, ↓b_iTc, ↓b_wiTc, ↓b_lW, ↓b_lWc, ↓b_aW, ↓b_iW, ↓b_wiW, ↓b_jWc, ↓b_wjWc, ↓b_rt, ↓b_ru, ↓b_wt, ↓b_wu, ↓b_0l, ↓b_0, ↓b_1, ↓b_2, m_tk, ↓reduceIte, cond_true, cond_false, Option.bind_some, e_Md_act_250, e_Md_act_264, e_Md_act_280, e_Md_act_281, e_Md_act_314, e_Md_act_332, e_Md_act_349, e_Md_act_350, show ¬ (38 : Int32) = 126 by decide, show ¬ (38 : Int32) = 36 by decide, nn, nn2, eq1, np, u20, y2, ft3_1, nI_pos, i_11, i_01, i_1_0, i_0_1, not_true, not_false_eq_true, if_true, if_false, Bool.true_eq_false, Bool.false_eq_true, decide_true, decide_false]
          rfl
        · have ne1 : ¬ nI (v.2.getD 0 0 - 2007) = nI self := by rw [nI_eq (by omega) (by omega)]; exact c3
          by_cases c4 : S.1 1 (v.2.getD 0 0 - 2007) = 1
          · obtain ⟨f2, z1, z2, z3⟩ := m_pLink (xs := xs) (t := t) (u := u) (c := c) (s := s) h1 hm1 hb h6 q1 (fun e => c3 e.symm) c4
            have y22 : f2 139 20 = 0 := by rw [z3 _ _ (by omega)]; exact y2
            refine ⟨f2, g1, ?_, mR_0 (show ¬ (0 : Nat) = 3 by decide) z2 y22 (fun _ => ⟨by rw [z3 _ _ (by omega)]; exact at1, hg1, hns1⟩) (fZ_t (fZ_M y4) (fZ_m z3)) (gZ_M y5)⟩
            rw [st, hh]
            simp (maxSteps := 4000000) (disch := first | omega | assumption) only [↓b_ix, ↓b_l3, ↓b_a3_0, ↓b_a3_1, ↓b_a3_2, ↓b_l4, ↓b_a4_0, ↓b_a4_1, ↓b_a4_2, ↓b_a4_3, ↓b_l129, ↓b_a129_0, ↓b_l130, ↓b_i130_1, ↓b_wi130_1, ↓b_l133, ↓b_a133_0, ↓b_a133_1, ↓b_i133_2, ↓b_wi133_2, ↓b_j133_3, ↓b_wj133_3, ↓b_i133_4, ↓b_wi133_4, ↓b_l134, ↓b_a134_0, ↓b_a134_1, ↓b_i134_2, ↓b_wi134_2, ↓b_i134_3, ↓b_wi134_3, ↓b_l135, ↓b_i135_1, ↓b_wi135_1, ↓b_l139, ↓b_a139_0, ↓b_a139_1, ↓b_a139_2, ↓b_a139_3, ↓b_a139_4, ↓b_a139_5, ↓b_a139_6, ↓b_a139_7, ↓b_a139_8, ↓b_a139_9, ↓b_a139_10, ↓b_a139_11, ↓b_a139_12, ↓b_a139_13, ↓b_a139_14, ↓b_i139_15, ↓b_wi139_15, ↓b_i139_16, ↓b_wi139_16, ↓b_i139_17, ↓b_wi139_17, ↓b_a139_18, ↓b_i139_19, ↓b_wi139_19, ↓b_i139_20, ↓b_wi139_20, ↓b_i139_21, ↓b_wi139_21, ↓b_l6, ↓b_i6, ↓b_wi6, ↓b_l140, ↓b_i140, ↓b_wi140, ↓b_l141, ↓b_i141, ↓b_wi141, ↓b_l142, ↓b_i142, ↓b_wi142, ↓b_l143, ↓b_i143, ↓b_wi143, ↓b_l144, ↓b_j144, ↓b_wj144, ↓b_l145, ↓b_j145, ↓b_wj145, ↓b_l146, ↓b_i146, ↓b_wi146, ↓b_l147, ↓b_i147, ↓b_wi147, ↓b_l148, ↓b_i148, ↓b_wi148, ↓b_l149, ↓b_i149, ↓b_wi149, ↓b_l150, ↓b_j150, ↓b_wj150, ↓b_l151, ↓b_i151, ↓b_wi151, ↓b_l152, ↓b_j152, ↓b_wj152, ↓b_l153, ↓b_i153, ↓b_wi153, ↓b_l154, ↓b_i154, ↓b_wi154, ↓b_l155, ↓b_j155, ↓b_wj155, ↓b_l156, ↓b_j156, ↓b_wj156, ↓b_l138, ↓b_j138, ↓b_wj138, ↓b_a5, ↓b_a13, ↓b_a44, ↓b_lA, ↓b_aA_0, ↓b_aA_1, ↓b_iA_2, ↓b_wiA_2, ↓b_iA_4, ↓b_wiA_4, ↓b_iA_5, ↓b_wiA_5, ↓b_iA_6, ↓b_wiA_6, ↓b_jA_3, ↓b_wjA_3, ↓b_lT, ↓b_lTc, ↓b_aT, ↓b_iT, ↓b_wiT, ↓b_iTc, ↓b_wiTc, ↓b_lW, ↓b_lWc, ↓b_aW, ↓b_iW, ↓b_wiW, ↓b_jWc, ↓b_wjWc, ↓b_rt, ↓b_ru, ↓b_wt, ↓b_wu, ↓b_0l, ↓b_0, ↓b_1, ↓b_2, m_tk, ↓reduceIte, cond_true, cond_false, Option.bind_some, e_Md_act_250, e_Md_act_264, e_Md_act_280, e_Md_act_281, e_Md_act_314, e_Md_act_332, e_Md_act_349, e_Md_act_350, show ¬ (38 : Int32) = 126 by decide, show ¬ (38 : Int32) = 36 by decide, nn, nn2, ne1, u20, y2, stt, c4, show nI 1 = 1 from rfl, ↓bV z1, y22, ft3_1, i_11, i_01, i_1_0, i_0_1, not_true, not_false_eq_true, if_true, if_false, Bool.true_eq_false, Bool.false_eq_true, decide_true, decide_false]
            rfl
          · have pl : pLink S self (v.2.getD 0 0 - 2007) = S := by unfold pLink; rw [if_pos (.inr c4)]
            rw [pl]
            have ne4 : ¬ nI (S.1 1 (v.2.getD 0 0 - 2007)) = 1 := by rw [l_1, nI_eq (by omega) (by omega)]; exact c4
            refine ⟨f1, g1, ?_, mR_0 (show ¬ (0 : Nat) = 3 by decide) hm1 y2 (fun _ => ⟨at1, hg1, hns1⟩) (fZ_M y4) (gZ_M y5)⟩
            rw [st, hh]
            simp (maxSteps := 4000000) (disch := first | omega | assumption) only [↓b_ix, ↓b_l3, ↓b_a3_0, ↓b_a3_1, ↓b_a3_2, ↓b_l4, ↓b_a4_0, ↓b_a4_1, ↓b_a4_2, ↓b_a4_3, ↓b_l129, ↓b_a129_0, ↓b_l130, ↓b_i130_1, ↓b_wi130_1, ↓b_l133, ↓b_a133_0, ↓b_a133_1, ↓b_i133_2, ↓b_wi133_2, ↓b_j133_3, ↓b_wj133_3, ↓b_i133_4, ↓b_wi133_4, ↓b_l134, ↓b_a134_0, ↓b_a134_1, ↓b_i134_2, ↓b_wi134_2, ↓b_i134_3, ↓b_wi134_3, ↓b_l135, ↓b_i135_1, ↓b_wi135_1, ↓b_l139, ↓b_a139_0, ↓b_a139_1, ↓b_a139_2, ↓b_a139_3, ↓b_a139_4, ↓b_a139_5, ↓b_a139_6, ↓b_a139_7, ↓b_a139_8, ↓b_a139_9, ↓b_a139_10, ↓b_a139_11, ↓b_a139_12, ↓b_a139_13, ↓b_a139_14, ↓b_i139_15, ↓b_wi139_15, ↓b_i139_16, ↓b_wi139_16, ↓b_i139_17, ↓b_wi139_17, ↓b_a139_18, ↓b_i139_19, ↓b_wi139_19, ↓b_i139_20, ↓b_wi139_20, ↓b_i139_21, ↓b_wi139_21, ↓b_l6, ↓b_i6, ↓b_wi6, ↓b_l140, ↓b_i140, ↓b_wi140, ↓b_l141, ↓b_i141, ↓b_wi141, ↓b_l142, ↓b_i142, ↓b_wi142, ↓b_l143, ↓b_i143, ↓b_wi143, ↓b_l144, ↓b_j144, ↓b_wj144, ↓b_l145, ↓b_j145, ↓b_wj145, ↓b_l146, ↓b_i146, ↓b_wi146, ↓b_l147, ↓b_i147, ↓b_wi147, ↓b_l148, ↓b_i148, ↓b_wi148, ↓b_l149, ↓b_i149, ↓b_wi149, ↓b_l150, ↓b_j150, ↓b_wj150, ↓b_l151, ↓b_i151, ↓b_wi151, ↓b_l152, ↓b_j152, ↓b_wj152, ↓b_l153, ↓b_i153, ↓b_wi153, ↓b_l154, ↓b_i154, ↓b_wi154, ↓b_l155, ↓b_j155, ↓b_wj155, ↓b_l156, ↓b_j156, ↓b_wj156, ↓b_l138, ↓b_j138, ↓b_wj138, ↓b_a5, ↓b_a13, ↓b_a44, ↓b_lA, ↓b_aA_0, ↓b_aA_1, ↓b_iA_2, ↓b_wiA_2, ↓b_iA_4, ↓b_wiA_4, ↓b_iA_5, ↓b_wiA_5, ↓b_iA_6, ↓b_wiA_6, ↓b_jA_3, ↓b_wjA_3, ↓b_lT, ↓b_lTc, ↓b_aT, ↓b_iT, ↓b_wiT, ↓b_iTc, ↓b_wiTc, ↓b_lW, ↓b_lWc, ↓b_aW, ↓b_iW, ↓b_wiW, ↓b_jWc, ↓b_wjWc, ↓b_rt, ↓b_ru, ↓b_wt, ↓b_wu, ↓b_0l, ↓b_0, ↓b_1, ↓b_2, m_tk, ↓reduceIte, cond_true, cond_false, Option.bind_some, e_Md_act_250, e_Md_act_264, e_Md_act_280, e_Md_act_281, e_Md_act_314, e_Md_act_332, e_Md_act_349, e_Md_act_350, show ¬ (38 : Int32) = 126 by decide, show ¬ (38 : Int32) = 36 by decide, nn, nn2, ne1, u20, y2, stt, ne4, ft3_1, i_11, i_01, i_1_0, i_0_1, not_true, not_false_eq_true, if_true, if_false, Bool.true_eq_false, Bool.false_eq_true, decide_true, decide_false]
            rfl
      · rw [if_neg c2]
        rw [if_neg c2] at st
        refine ⟨m_u f1 139 20 1, g1, ?_, mR_0 (show ¬ (1 : Nat) = 3 by decide) (mA_u hm1 (.inr rfl)) (m_uu _) (fun h => (nomatch (show (1 : Nat) = 0 from h))) (fZ_u (fZ_M y4) (.inr rfl)) (gZ_M y5)⟩
        rw [st, hh]
        simp (maxSteps := 4000000) (disch := first | omega | assumption) only [↓b_ix, ↓b_l3, ↓b_a3_0, ↓b_a3_1, ↓b_a3_2, ↓b_l4, ↓b_a4_0, ↓b_a4_1, ↓b_a4_2, ↓b_a4_3, ↓b_l129, ↓b_a129_0, ↓b_l130, ↓b_i130_1, ↓b_wi130_1, ↓b_l133, ↓b_a133_0, ↓b_a133_1, ↓b_i133_2, ↓b_wi133_2, ↓b_j133_3, ↓b_wj133_3, ↓b_i133_4, ↓b_wi133_4, ↓b_l134, ↓b_a134_0, ↓b_a134_1, ↓b_i134_2, ↓b_wi134_2, ↓b_i134_3, ↓b_wi134_3, ↓b_l135, ↓b_i135_1, ↓b_wi135_1, ↓b_l139, ↓b_a139_0, ↓b_a139_1, ↓b_a139_2, ↓b_a139_3, ↓b_a139_4, ↓b_a139_5, ↓b_a139_6, ↓b_a139_7, ↓b_a139_8, ↓b_a139_9, ↓b_a139_10, ↓b_a139_11, ↓b_a139_12, ↓b_a139_13, ↓b_a139_14, ↓b_i139_15, ↓b_wi139_15, ↓b_i139_16, ↓b_wi139_16, ↓b_i139_17, ↓b_wi139_17, ↓b_a139_18, ↓b_i139_19, ↓b_wi139_19, ↓b_i139_20, ↓b_wi139_20, ↓b_i139_21, ↓b_wi139_21, ↓b_l6, ↓b_i6, ↓b_wi6, ↓b_l140, ↓b_i140, ↓b_wi140, ↓b_l141, ↓b_i141, ↓b_wi141, ↓b_l142, ↓b_i142, ↓b_wi142, ↓b_l143, ↓b_i143, ↓b_wi143, ↓b_l144, ↓b_j144, ↓b_wj144, ↓b_l145, ↓b_j145, ↓b_wj145, ↓b_l146, ↓b_i146, ↓b_wi146, ↓b_l147, ↓b_i147, ↓b_wi147, ↓b_l148, ↓b_i148, ↓b_wi148, ↓b_l149, ↓b_i149, ↓b_wi149, ↓b_l150, ↓b_j150, ↓b_wj150, ↓b_l151, ↓b_i151, ↓b_wi151, ↓b_l152, ↓b_j152, ↓b_wj152, ↓b_l153, ↓b_i153, ↓b_wi153, ↓b_l154, ↓b_i154, ↓b_wi154, ↓b_l155, ↓b_j155, ↓b_wj155, ↓b_l156, ↓b_j156, ↓b_wj156, ↓b_l138, ↓b_j138, ↓b_wj138, ↓b_a5, ↓b_a13, ↓b_a44, ↓b_lA, ↓b_aA_0, ↓b_aA_1, ↓b_iA_2, ↓b_wiA_2, ↓b_iA_4, ↓b_wiA_4, ↓b_iA_5, ↓b_wiA_5, ↓b_iA_6, ↓b_wiA_6, ↓b_jA_3, ↓b_wjA_3, ↓b_lT, ↓b_lTc, ↓b_aT, ↓b_iT, ↓b_wiT, ↓b_iTc, ↓b_wiTc, ↓b_lW, ↓b_lWc, ↓b_aW, ↓b_iW, ↓b_wiW, ↓b_jWc, ↓b_wjWc, ↓b_rt, ↓b_ru, ↓b_wt, ↓b_wu, ↓b_0l, ↓b_0, ↓b_1, ↓b_2, m_tk, ↓reduceIte, cond_true, cond_false, Option.bind_some, e_Md_act_250, e_Md_act_264, e_Md_act_280, e_Md_act_281, e_Md_act_314, e_Md_act_332, e_Md_act_349, e_Md_act_350, show ¬ (38 : Int32) = 126 by decide, show ¬ (38 : Int32) = 36 by decide, show ¬ (0 : Int32) ≤ -1 by decide, show (-1 : Int32) < 0 by decide, m_uu, i_1_0, ft3_0, i_11, i_01, i_1_0, i_0_1, not_true, not_false_eq_true, if_true, if_false, Bool.true_eq_false, Bool.false_eq_true, decide_true, decide_false]
        rfl
    · have n126 : ¬ w i = 126 := by rw [hh]; decide
      rw [if_neg n126, if_pos hh]
      have lo := m_leafOf2 (M := mM xs f1 g1 t u c s) h1 tl
      have hl := getD_lt tl (sN_pos _ tl.1)
      obtain ⟨f2, g2, z1, z2, z3, z4⟩ := m_end (xs := xs) (t := t) (u := u) (c := c) (s := s) (show 3 ≤ d by omega) hm1 hb h6 (hwf.2.2.2.2.1 self h6) hl
      have y22 : f2 139 20 = 0 := by rw [z3 _ _ (by omega)]; exact y2
      refine ⟨f2, g2, ?_, ⟨z2, y22, fun h => (nomatch (show (3 : Nat) = 0 from h)), fZ_t (fZ_M y4) (fZ_m z3), gZ_t (gZ_M y5) (gZ_m z4)⟩⟩
      rw [st, hh]
      simp (maxSteps := 4000000) (disch := first | omega | assumption) only [↓b_ix, ↓b_l3, ↓b_a3_0, ↓b_a3_1, ↓b_a3_2, ↓b_l4, ↓b_a4_0, ↓b_a4_1, ↓b_a4_2, ↓b_a4_3, ↓b_l129, ↓b_a129_0, ↓b_l130, ↓b_i130_1, ↓b_wi130_1, ↓b_l133, ↓b_a133_0, ↓b_a133_1, ↓b_i133_2, ↓b_wi133_2, ↓b_j133_3, ↓b_wj133_3, ↓b_i133_4, ↓b_wi133_4, ↓b_l134, ↓b_a134_0, ↓b_a134_1, ↓b_i134_2, ↓b_wi134_2, ↓b_i134_3, ↓b_wi134_3, ↓b_l135, ↓b_i135_1, ↓b_wi135_1, ↓b_l139, ↓b_a139_0, ↓b_a139_1, ↓b_a139_2, ↓b_a139_3, ↓b_a139_4, ↓b_a139_5, ↓b_a139_6, ↓b_a139_7, ↓b_a139_8, ↓b_a139_9, ↓b_a139_10, ↓b_a139_11, ↓b_a139_12, ↓b_a139_13, ↓b_a139_14, ↓b_i139_15, ↓b_wi139_15, ↓b_i139_16, ↓b_wi139_16, ↓b_i139_17, ↓b_wi139_17, ↓b_a139_18, ↓b_i139_19, ↓b_wi139_19, ↓b_i139_20, ↓b_wi139_20, ↓b_i139_21, ↓b_wi139_21, ↓b_l6, ↓b_i6, ↓b_wi6, ↓b_l140, ↓b_i140, ↓b_wi140, ↓b_l141, ↓b_i141, ↓b_wi141, ↓b_l142, ↓b_i142, ↓b_wi142, ↓b_l143, ↓b_i143, ↓b_wi143, ↓b_l144, ↓b_j144, ↓b_wj144, ↓b_l145, ↓b_j145, ↓b_wj145, ↓b_l146, ↓b_i146, ↓b_wi146, ↓b_l147, ↓b_i147, ↓b_wi147, ↓b_l148, ↓b_i148, ↓b_wi148, ↓b_l149, ↓b_i149, ↓b_wi149, ↓b_l150, ↓b_j150, ↓b_wj150, ↓b_l151, ↓b_i151, ↓b_wi151, ↓b_l152, ↓b_j152, ↓b_wj152, ↓b_l153, ↓b_i153, ↓b_wi153, ↓b_l154, ↓b_i154, ↓b_wi154, ↓b_l155, ↓b_j155, ↓b_wj155, ↓b_l156, ↓b_j156, ↓b_wj156, ↓b_l138, ↓b_j138, ↓b_wj138, ↓b_a5, ↓b_a13, ↓b_a44, ↓b_lA, ↓b_aA_0, ↓b_aA_1, ↓b_iA_2, ↓b_wiA_2, ↓b_iA_4, ↓b_wiA_4, ↓b_iA_5, ↓b_wiA_5, ↓b_iA_6, ↓b_wiA_6, ↓b_jA_3, ↓b_wjA_3, ↓b_lT, ↓b_lTc, ↓b_aT, ↓b_iT, ↓b_wiT, ↓b_iTc, ↓b_wiTc, ↓b_lW, ↓b_lWc, ↓b_aW, ↓b_iW, ↓b_wiW, ↓b_jWc, ↓b_wjWc, ↓b_rt, ↓b_ru, ↓b_wt, ↓b_wu, ↓b_0l, ↓b_0, ↓b_1, ↓b_2, m_tk, ↓reduceIte, cond_true, cond_false, Option.bind_some, e_Md_act_250, e_Md_act_264, e_Md_act_314, e_Md_act_332, e_Md_act_349, e_Md_act_350, show ¬ (36 : Int32) = 126 by decide, show ¬ (36 : Int32) = 38 by decide, ↓bI lo, ↓bI z1, y22, ft3_0, i_11, i_01, i_1_0, i_0_1, not_true, not_false_eq_true, if_true, if_false, Bool.true_eq_false, Bool.false_eq_true, decide_true, decide_false]
      rfl
  · rw [if_neg c1] at y2 ⊢
    have h12 := vT_12 l1 c1
    have ne0 : ¬ nI ((ev w va self 4 (i + 1)).1.1 - 10) = 0 := by rw [l_0, nI_eq (by omega) (by omega)]; exact h12.2.2
    have dd : decide ((ev w va self 4 (i + 1)).1.1 - 10 = 0) = false := decide_eq_false h12.2.2
    refine ⟨f1, g1, ?_, mR_0 h12.2.1 hm1 y2 (fun h => absurd h h12.2.2) (fZ_M y4) (gZ_M y5)⟩
    simp only
    rw [dd]
    simp (maxSteps := 4000000) (disch := first | omega | assumption) only [↓b_ix, ↓b_l3, ↓b_a3_0, ↓b_a3_1, ↓b_a3_2, ↓b_l4, ↓b_a4_0, ↓b_a4_1, ↓b_a4_2, ↓b_a4_3, ↓b_l129, ↓b_a129_0, ↓b_l130, ↓b_i130_1, ↓b_wi130_1, ↓b_l133, ↓b_a133_0, ↓b_a133_1, ↓b_i133_2, ↓b_wi133_2, ↓b_j133_3, ↓b_wj133_3, ↓b_i133_4, ↓b_wi133_4, ↓b_l134, ↓b_a134_0, ↓b_a134_1, ↓b_i134_2, ↓b_wi134_2, ↓b_i134_3, ↓b_wi134_3, ↓b_l135, ↓b_i135_1, ↓b_wi135_1, ↓b_l139, ↓b_a139_0, ↓b_a139_1, ↓b_a139_2, ↓b_a139_3, ↓b_a139_4, ↓b_a139_5, ↓b_a139_6, ↓b_a139_7, ↓b_a139_8, ↓b_a139_9, ↓b_a139_10, ↓b_a139_11, ↓b_a139_12, ↓b_a139_13, ↓b_a139_14, ↓b_i139_15, ↓b_wi139_15, ↓b_i139_16, ↓b_wi139_16, ↓b_i139_17, ↓b_wi139_17, ↓b_a139_18, ↓b_i139_19, ↓b_wi139_19, ↓b_i139_20, ↓b_wi139_20, ↓b_i139_21, ↓b_wi139_21, ↓b_l6, ↓b_i6, ↓b_wi6, ↓b_l140, ↓b_i140, ↓b_wi140, ↓b_l141, ↓b_i141, ↓b_wi141, ↓b_l142, ↓b_i142, ↓b_wi142, ↓b_l143, ↓b_i143, ↓b_wi143, ↓b_l144, ↓b_j144, ↓b_wj144, ↓b_l145, ↓b_j145, ↓b_wj145, ↓b_l146, ↓b_i146, ↓b_wi146, ↓b_l147, ↓b_i147, ↓b_wi147, ↓b_l148, ↓b_i148, ↓b_wi148, ↓b_l149, ↓b_i149, ↓b_wi149, ↓b_l150, ↓b_j150, ↓b_wj150, ↓b_l151, ↓b_i151, ↓b_wi151, ↓b_l152, ↓b_j152, ↓b_wj152, ↓b_l153, ↓b_i153, ↓b_wi153, ↓b_l154, ↓b_i154, ↓b_wi154, ↓b_l155, ↓b_j155, ↓b_wj155, ↓b_l156, ↓b_j156, ↓b_wj156, ↓b_l138, ↓b_j138, ↓b_wj138, ↓b_a5, ↓b_a13, ↓b_a44, ↓b_lA, ↓b_aA_0, ↓b_aA_1, ↓b_iA_2, ↓b_wiA_2, ↓b_iA_4, ↓b_wiA_4, ↓b_iA_5, ↓b_wiA_5, ↓b_iA_6, ↓b_wiA_6, ↓b_jA_3, ↓b_wjA_3, ↓b_lT, ↓b_lTc, ↓b_aT, ↓b_iT, ↓b_wiT, ↓b_iTc, ↓b_wiTc, ↓b_lW, ↓b_lWc, ↓b_aW, ↓b_iW, ↓b_wiW, ↓b_jWc, ↓b_wjWc, ↓b_rt, ↓b_ru, ↓b_wt, ↓b_wu, ↓b_0l, ↓b_0, ↓b_1, ↓b_2, m_tk, ↓reduceIte, cond_true, cond_false, Option.bind_some, y_Md_act, e_Md_act_0, e_Md_act_35, e_Md_act_36, e_Md_act_46, e_Md_act_96, e_Md_act_97, e_Md_act_109, e_Md_act_152, e_Md_act_171, e_Md_act_204, e_Md_act_226, e_Md_act_230, e_Md_act_231, e_Md_act_264, e_Md_act_280, e_Md_act_281, e_Md_act_314, e_Md_act_332, e_Md_act_349, e_Md_act_350, w0, e42, e64, e33, b1, ↓bJ y1, y2, ne0, i_11, i_01, i_1_0, i_0_1, not_true, not_false_eq_true, if_true, if_false, Bool.true_eq_false, Bool.false_eq_true, decide_true, decide_false]
    rfl
theorem m_act33 {f : mF} {g : mG} {i j m : Nat} (hd : 6 ≤ d) (h6 : self < 6) (hm : mA f g S.1 S.2) (hwf : wf S) (hns : g 155 4 = mTh ns) (hg : ∀ v, v < 6 → g 152 v = mTh (va v)) (hV : ∀ v, v < 6 → vV (va v)) (hta : tA S self n w) (hBs : B = 60 * (3 + self)) (hi : i < n) (h33 : w i = 33) (a1 : xp w n 4 (i + 1) m) (a2 : xp w n 4 m j) : ∃ f' g', am_Y d 133 [.ref 139, .int (nI self), .int (nI (B + i))] (mM xs f g t u c s) = some (.inl (some (.int (m_b (decide ((pA w self S va ns i).1 = 0))))), mM xs f' g' t u c s) ∧ mRR B self j f g (pA w self S va ns i) f' g' := by
  obtain ⟨d, rfl⟩ : ∃ e, d = e + 1 := ⟨d - 1, by omega⟩
  have h1 : 1 ≤ d := by omega
  have h2 : 2 ≤ d := by omega
  have hx := tX_A hm hta h6 hBs
  have hB := hx.1
  have hn := hta.2.1
  have hb := hwf.1
  have w0 := hx.2 i hi
  have b1 : nI (B + i) + 1 = nI (B + (i + 1)) := by rw [nI_1, Nat.add_assoc]
  obtain ⟨l1, l2, l3, l4⟩ := ev_all (va := va) h6 hV 4 a1
  obtain ⟨f1, g1, y1, y2, y3, y4, y5⟩ := m_evaluate (xs := xs) (t := t) (u := u) (c := c) (s := s) (self := self) (f := f) (g := g) (show 5 ≤ d by omega) hn h6 hV hx hg a1
  have hm1 := mA_Q hm (fQ_M y4) (gQ_M y5)
  have hns1 : g1 155 4 = mTh ns := by rw [y5 _ _ (by omega)]; exact hns
  have hg1 := gv_g hg y5
  have hx1 := tX_Q hx (fQ_M y4)
  unfold pA
  rw [if_pos h33]
  rw [h33] at w0
  by_cases c1 : (ev w va self 4 (i + 1)).1.1 < 9
  · rw [if_pos c1] at y2 ⊢
    have at1 := y3 c1
    rw [l4 c1]
    have tl := vT_9 l1 c1
    have ao := m_actorOf2 (M := mM xs f1 g1 t u c s) h2 tl
    obtain ⟨r1, r2, r3, r4⟩ := ev_all (va := va) h6 hV 4 a2
    obtain ⟨f2, g2, z1, z2, z3, z4, z5⟩ := m_evaluate (xs := xs) (t := t) (u := u) (c := c) (s := s) (self := self) (f := f1) (g := g1) (show 5 ≤ d by omega) hn h6 hV hx1 hg1 a2
    have hm2 := mA_Q hm1 (fQ_M z4) (gQ_M z5)
    have hns2 : g2 155 4 = mTh ns := by rw [z5 _ _ (by omega)]; exact hns1
    have hg2 := gv_g hg1 z5
    have fz2 := fZ_t (fZ_M y4) (fZ_M z4)
    have gz2 := gZ_t (gZ_M y5) (gZ_M z5)
    generalize (ev w va self 4 (i + 1)).1 = v at *
    by_cases c2 : (ev w va self 4 m).1.1 < 9
    · rw [if_pos c2] at z2 ⊢
      have at2 := z3 c2
      generalize (ev w va self 4 m).1 = msg at *
      have st : am_Y (d + 1) 133 [.ref 139, .int (nI self), .int (nI (B + i))] (mM xs f g t u c s) = am_X (am_Y d) k_Md_act 204 [(0, .ref 139), (1, .int (nI self)), (3, .int 33), (4, .long (mTh v)), (6, .int (if isR v.1 v.2 then nI (v.2.getD 0 0 - 2007) else -1)), (7, .long (mTh msg))] [] (mM xs f2 g2 t u c s) := by
        simp (maxSteps := 4000000) (disch := first | omega | assumption) only [↓b_ix, ↓b_l3, ↓b_a3_0, ↓b_a3_1, ↓b_a3_2, ↓b_l4, ↓b_a4_0, ↓b_a4_1, ↓b_a4_2, ↓b_a4_3, ↓b_l129, ↓b_a129_0, ↓b_l130, ↓b_i130_1, ↓b_wi130_1, ↓b_l133, ↓b_a133_0, ↓b_a133_1, ↓b_i133_2, ↓b_wi133_2, ↓b_j133_3, ↓b_wj133_3, ↓b_i133_4, ↓b_wi133_4, ↓b_l134, ↓b_a134_0, ↓b_a134_1, ↓b_i134_2, ↓b_wi134_2, ↓b_i134_3, ↓b_wi134_3, ↓b_l135, ↓b_i135_1, ↓b_wi135_1, ↓b_l139, ↓b_a139_0, ↓b_a139_1, ↓b_a139_2, ↓b_a139_3, ↓b_a139_4, ↓b_a139_5, ↓b_a139_6, ↓b_a139_7, ↓b_a139_8, ↓b_a139_9, ↓b_a139_10, ↓b_a139_11, ↓b_a139_12, ↓b_a139_13, ↓b_a139_14, ↓b_i139_15, ↓b_wi139_15, ↓b_i139_16, ↓b_wi139_16, ↓b_i139_17, ↓b_wi139_17, ↓b_a139_18, ↓b_i139_19, ↓b_wi139_19, ↓b_i139_20, ↓b_wi139_20, ↓b_i139_21, ↓b_wi139_21, ↓b_l6, ↓b_i6, ↓b_wi6, ↓b_l140, ↓b_i140, ↓b_wi140, ↓b_l141, ↓b_i141, ↓b_wi141, ↓b_l142, ↓b_i142, ↓b_wi142, ↓b_l143, ↓b_i143, ↓b_wi143, ↓b_l144, ↓b_j144, ↓b_wj144, ↓b_l145, ↓b_j145, ↓b_wj145, ↓b_l146, ↓b_i146, ↓b_wi146, ↓b_l147, ↓b_i147, ↓b_wi147, ↓b_l148, ↓b_i148, ↓b_wi148, ↓b_l149, ↓b_i149, ↓b_wi149, ↓b_l150, ↓b_j150, ↓b_wj150, ↓b_l151, ↓b_i151, ↓b_wi151, ↓b_l152, ↓b_j152, ↓b_wj152, ↓b_l153, ↓b_i153, ↓b_wi153, ↓b_l154, ↓b_i154, ↓b_wi154, ↓b_l155, ↓b_j155, ↓b_wj155, ↓b_l156, ↓b_j156, ↓b_wj156, ↓b_l138, ↓b_j138, ↓b_wj138, ↓b_a5, ↓b_a13, ↓b_a44, ↓b_lA, ↓b_aA_0, ↓b_aA_1, ↓b_iA_2, ↓b_wiA_2, ↓b_iA_4, ↓b_wiA_4, ↓b_iA_5, ↓b_wiA_5, ↓b_iA_6, ↓b_wiA_6, ↓b_jA_3, ↓b_wjA_3, ↓b_lT, ↓b_lTc, ↓b_aT, ↓b_iT, ↓b_wiT, ↓b_iTc, ↓b_wiTc, ↓b_lW, ↓b_lWc, ↓b_aW, ↓b_iW, ↓b_wiW, ↓b_jWc, ↓b_wjWc, ↓b_rt, ↓b_ru, ↓b_wt, ↓b_wu, ↓b_0l, ↓b_0, ↓b_1, ↓b_2, m_tk, ↓reduceIte, cond_true, cond_false, Option.bind_some, y_Md_act, e_Md_act_0, e_Md_act_35, e_Md_act_36, e_Md_act_46, e_Md_act_96, e_Md_act_97, e_Md_act_109, e_Md_act_152, e_Md_act_171, e_Md_act_226, e_Md_act_230, e_Md_act_231, e_Md_act_250, e_Md_act_264, e_Md_act_280, e_Md_act_281, e_Md_act_314, e_Md_act_332, e_Md_act_349, e_Md_act_350, w0, show ¬ (33 : Int32) = 42 by decide, show ¬ (33 : Int32) = 64 by decide, b1, ↓bJ y1, y2, ↓bI ao, at1, ↓bJ z1, z2, i_11, i_01, i_1_0, i_0_1, not_true, not_false_eq_true, if_true, if_false, Bool.true_eq_false, Bool.false_eq_true, decide_true, decide_false]
      have bad : ∀ F : mF, F = m_u f2 139 20 1 → mRR B self j f g (1, 0, S, va, ns) F g2 := by
        intro F hF
        subst hF
        exact mR_0 (show ¬ (1 : Nat) = 3 by decide) (mA_u hm2 (.inr rfl)) (m_uu _) (fun h => (nomatch (show (1 : Nat) = 0 from h))) (fZ_u fz2 (.inr rfl)) gz2
      by_cases c3 : isR v.1 v.2 = true
      · obtain ⟨q1, _⟩ := isR_s tl c3
        rw [if_pos c3] at st
        have nn2 : ¬ nI (v.2.getD 0 0 - 2007) < 0 := nI_pos (by omega)
        have ei : 6 * nI self + nI (v.2.getD 0 0 - 2007) = nI (6 * self + (v.2.getD 0 0 - 2007)) := by rw [l_6, nI_mul, nI_add]
        have hcnt : f2 151 (6 * self + (v.2.getD 0 0 - 2007)) = nI (S.1 6 (6 * self + (v.2.getD 0 0 - 2007))) := hm2.2.2.2.2.2.2.1 _ (by omega)
        have hle := hb.2.1 (6 * self + (v.2.getD 0 0 - 2007)) (by omega)
        by_cases c4 : S.1 6 (6 * self + (v.2.getD 0 0 - 2007)) < 4
        · rw [if_pos ⟨c3, c4⟩]
          have lt4 : nI (S.1 6 (6 * self + (v.2.getD 0 0 - 2007))) < 4 := by rw [l_4, nI_ltI (by omega) (by omega)]; exact c4
          have u20 : m_u f2 139 20 0 = f2 := m_us z2.symm
          obtain ⟨f3, g3, k1, k2, k3, k4⟩ := m_put (xs := xs) (t := t) (u := u) (c := c) (s := s) (v := msg) h1 hm2 hb (show self < 7 by omega) q1
          have z23 : f3 139 20 = 0 := by rw [k3 _ _ (by omega)]; exact z2
          refine ⟨f3, g3, ?_, mR_0 (show ¬ (0 : Nat) = 3 by decide) k2 z23 (fun _ => ⟨by rw [k3 _ _ (by omega)]; exact at2, fun v hv => by rw [k4 _ _ (by omega)]; exact hg2 v hv, by rw [k4 _ _ (by omega)]; exact hns2⟩) (fZ_t fz2 (fZ_m k3)) (gZ_t gz2 (gZ_m k4))⟩
          rw [st]
          simp (maxSteps := 4000000) (disch := first | omega | assumption) only [↓b_ix, ↓b_l3, ↓b_a3_0, ↓b_a3_1, ↓b_a3_2, ↓b_l4, ↓b_a4_0, ↓b_a4_1, ↓b_a4_2, ↓b_a4_3, ↓b_l129, ↓b_a129_0, ↓b_l130, ↓b_i130_1, ↓b_wi130_1, ↓b_l133, ↓b_a133_0, ↓b_a133_1, ↓b_i133_2, ↓b_wi133_2, ↓b_j133_3, ↓b_wj133_3, ↓b_i133_4, ↓b_wi133_4, ↓b_l134, ↓b_a134_0, ↓b_a134_1, ↓b_i134_2, ↓b_wi134_2, ↓b_i134_3, ↓b_wi134_3, ↓b_l135, ↓b_i135_1, ↓b_wi135_1, ↓b_l139, ↓b_a139_0, ↓b_a139_1, ↓b_a139_2, ↓b_a139_3, ↓b_a139_4, ↓b_a139_5, ↓b_a139_6, ↓b_a139_7, ↓b_a139_8, ↓b_a139_9, ↓b_a139_10, ↓b_a139_11, ↓b_a139_12, ↓b_a139_13, ↓b_a139_14, ↓b_i139_15, ↓b_wi139_15, ↓b_i139_16, ↓b_wi139_16, ↓b_i139_17, ↓b_wi139_17, ↓b_a139_18, ↓b_i139_19, ↓b_wi139_19, ↓b_i139_20, ↓b_wi139_20, ↓b_i139_21, ↓b_wi139_21, ↓b_l6, ↓b_i6, ↓b_wi6, ↓b_l140, ↓b_i140, ↓b_wi140, ↓b_l141, ↓b_i141, ↓b_wi141, ↓b_l142, ↓b_i142, ↓b_wi142, ↓b_l143, ↓b_i143, ↓b_wi143, ↓b_l144, ↓b_j144, ↓b_wj144, ↓b_l145, ↓b_j145, ↓b_wj145, ↓b_l146, ↓b_i146, ↓b_wi146, ↓b_l147, ↓b_i147, ↓b_wi147, ↓b_l148, ↓b_i148, ↓b_wi148, ↓b_l149, ↓b_i149, ↓b_wi149, ↓b_l150, ↓b_j150, ↓b_wj150, ↓b_l151, ↓b_i151, ↓b_wi151, ↓b_l152, ↓b_j152, ↓b_wj152, ↓b_l153, ↓b_i153, ↓b_wi153, ↓b_l154, ↓b_i154, ↓b_wi154, ↓b_l155, ↓b_j155, ↓b_wj155, ↓b_l156, ↓b_j156, ↓b_wj156, ↓b_l138, ↓b_j138, ↓b_wj138, ↓b_a5, ↓b_a13, ↓b_a44, ↓b_lA, ↓b_aA_0, ↓b_aA_1, ↓b_iA_2, ↓b_wiA_2, ↓b_iA_4, ↓b_wiA_4, ↓b_iA_5, ↓b_wiA_5, ↓b_iA_6, ↓b_wiA_6, ↓b_jA_3, ↓b_wjA_3, ↓b_lT, ↓b_lTc, ↓b_aT, ↓b_iT, ↓b_wiT, ↓b_iTc, ↓b_wiTc, ↓b_lW, ↓b_lWc, ↓b_aW, ↓b_iW, ↓b_wiW, ↓b_jWc, ↓b_wjWc, ↓b_rt, ↓b_ru, ↓b_wt, ↓b_wu, ↓b_0l, ↓b_0, ↓b_1, ↓b_2, m_tk, ↓reduceIte, cond_true, cond_false, Option.bind_some, e_Md_act_204, e_Md_act_226, e_Md_act_230, e_Md_act_231, e_Md_act_250, e_Md_act_264, e_Md_act_314, e_Md_act_332, e_Md_act_349, e_Md_act_350, nn2, ei, hcnt, lt4, u20, z2, ↓bV k1, show ¬ (33 : Int32) = 126 by decide, show ¬ (33 : Int32) = 38 by decide, show ¬ (33 : Int32) = 36 by decide, z23, ft3_1, i_11, i_01, i_1_0, i_0_1, not_true, not_false_eq_true, if_true, if_false, Bool.true_eq_false, Bool.false_eq_true, decide_true, decide_false]
          rfl
        · rw [if_neg (fun hh => c4 hh.2)]
          have lt4 : ¬ nI (S.1 6 (6 * self + (v.2.getD 0 0 - 2007))) < 4 := by rw [l_4, nI_ltI (by omega) (by omega)]; exact c4
          refine ⟨_, _, ?_, bad _ rfl⟩
          rw [st]
          simp (maxSteps := 4000000) (disch := first | omega | assumption) only [↓b_ix, ↓b_l3, ↓b_a3_0, ↓b_a3_1, ↓b_a3_2, ↓b_l4, ↓b_a4_0, ↓b_a4_1, ↓b_a4_2, ↓b_a4_3, ↓b_l129, ↓b_a129_0, ↓b_l130, ↓b_i130_1, ↓b_wi130_1, ↓b_l133, ↓b_a133_0, ↓b_a133_1, ↓b_i133_2, ↓b_wi133_2, ↓b_j133_3, ↓b_wj133_3, ↓b_i133_4, ↓b_wi133_4, ↓b_l134, ↓b_a134_0, ↓b_a134_1, ↓b_i134_2, ↓b_wi134_2, ↓b_i134_3, ↓b_wi134_3, ↓b_l135, ↓b_i135_1, ↓b_wi135_1, ↓b_l139, ↓b_a139_0, ↓b_a139_1, ↓b_a139_2, ↓b_a139_3, ↓b_a139_4, ↓b_a139_5, ↓b_a139_6, ↓b_a139_7, ↓b_a139_8, ↓b_a139_9, ↓b_a139_10, ↓b_a139_11, ↓b_a139_12, ↓b_a139_13, ↓b_a139_14, ↓b_i139_15, ↓b_wi139_15, ↓b_i139_16, ↓b_wi139_16, ↓b_i139_17, ↓b_wi139_17, ↓b_a139_18, ↓b_i139_19, ↓b_wi139_19, ↓b_i139_20, ↓b_wi139_20, ↓b_i139_21, ↓b_wi139_21, ↓b_l6, ↓b_i6, ↓b_wi6, ↓b_l140, ↓b_i140, ↓b_wi140, ↓b_l141, ↓b_i141, ↓b_wi141, ↓b_l142, ↓b_i142, ↓b_wi142, ↓b_l143, ↓b_i143, ↓b_wi143, ↓b_l144, ↓b_j144, ↓b_wj144, ↓b_l145, ↓b_j145, ↓b_wj145, ↓b_l146, ↓b_i146, ↓b_wi146, ↓b_l147, ↓b_i147, ↓b_wi147, ↓b_l148, ↓b_i148, ↓b_wi148, ↓b_l149, ↓b_i149, ↓b_wi149, ↓b_l150, ↓b_j150, ↓b_wj150, ↓b_l151, ↓b_i151, ↓b_wi151, ↓b_l152, ↓b_j152, ↓b_wj152, ↓b_l153, ↓b_i153, ↓b_wi153, ↓b_l154, ↓b_i154, ↓b_wi154, ↓b_l155, ↓b_j155, ↓b_wj155, ↓b_l156, ↓b_j156, ↓b_wj156, ↓b_l138, ↓b_j138, ↓b_wj138, ↓b_a5, ↓b_a13, ↓b_a44, ↓b_lA, ↓b_aA_0, ↓b_aA_1, ↓b_iA_2, ↓b_wiA_2, ↓b_iA_4, ↓b_wiA_4, ↓b_iA_5, ↓b_wiA_5, ↓b_iA_6, ↓b_wiA_6, ↓b_jA_3, ↓b_wjA_3, ↓b_lT, ↓b_lTc, ↓b_aT, ↓b_iT, ↓b_wiT, ↓b_iTc, ↓b_wiTc, ↓b_lW, ↓b_lWc, ↓b_aW, ↓b_iW, ↓b_wiW, ↓b_jWc, ↓b_wjWc, ↓b_rt, ↓b_ru, ↓b_wt, ↓b_wu, ↓b_0l, ↓b_0, ↓b_1, ↓b_2, m_tk, ↓reduceIte, cond_true, cond_false, Option.bind_some, e_Md_act_204, e_Md_act_226, e_Md_act_230, e_Md_act_231, e_Md_act_250, e_Md_act_264, e_Md_act_314, e_Md_act_332, e_Md_act_349, e_Md_act_350, nn2, ei, hcnt, lt4, m_uu, i_1_0, show ¬ (33 : Int32) = 126 by decide, show ¬ (33 : Int32) = 38 by decide, show ¬ (33 : Int32) = 36 by decide, ft3_0, i_11, i_01, i_1_0, i_0_1, not_true, not_false_eq_true, if_true, if_false, Bool.true_eq_false, Bool.false_eq_true, decide_true, decide_false]
          rfl
      · rw [if_neg (fun hh => c3 hh.1)]
        rw [if_neg c3] at st
        refine ⟨_, _, ?_, bad _ rfl⟩
        rw [st]
        simp (maxSteps := 4000000) (disch := first | omega | assumption) only [↓b_ix, ↓b_l3, ↓b_a3_0, ↓b_a3_1, ↓b_a3_2, ↓b_l4, ↓b_a4_0, ↓b_a4_1, ↓b_a4_2, ↓b_a4_3, ↓b_l129, ↓b_a129_0, ↓b_l130, ↓b_i130_1, ↓b_wi130_1, ↓b_l133, ↓b_a133_0, ↓b_a133_1, ↓b_i133_2, ↓b_wi133_2, ↓b_j133_3, ↓b_wj133_3, ↓b_i133_4, ↓b_wi133_4, ↓b_l134, ↓b_a134_0, ↓b_a134_1, ↓b_i134_2, ↓b_wi134_2, ↓b_i134_3, ↓b_wi134_3, ↓b_l135, ↓b_i135_1, ↓b_wi135_1, ↓b_l139, ↓b_a139_0, ↓b_a139_1, ↓b_a139_2, ↓b_a139_3, ↓b_a139_4, ↓b_a139_5, ↓b_a139_6, ↓b_a139_7, ↓b_a139_8, ↓b_a139_9, ↓b_a139_10, ↓b_a139_11, ↓b_a139_12, ↓b_a139_13, ↓b_a139_14, ↓b_i139_15, ↓b_wi139_15, ↓b_i139_16, ↓b_wi139_16, ↓b_i139_17, ↓b_wi139_17, ↓b_a139_18, ↓b_i139_19, ↓b_wi139_19, ↓b_i139_20, ↓b_wi139_20, ↓b_i139_21, ↓b_wi139_21, ↓b_l6, ↓b_i6, ↓b_wi6, ↓b_l140, ↓b_i140, ↓b_wi140, ↓b_l141, ↓b_i141, ↓b_wi141, ↓b_l142, ↓b_i142, ↓b_wi142, ↓b_l143, ↓b_i143, ↓b_wi143, ↓b_l144, ↓b_j144, ↓b_wj144, ↓b_l145, ↓b_j145, ↓b_wj145, ↓b_l146, ↓b_i146, ↓b_wi146, ↓b_l147, ↓b_i147, ↓b_wi147, ↓b_l148, ↓b_i148, ↓b_wi148, ↓b_l149, ↓b_i149, ↓b_wi149, ↓b_l150, ↓b_j150, ↓b_wj150, ↓b_l151, ↓b_i151, ↓b_wi151, ↓b_l152, ↓b_j152, ↓b_wj152, ↓b_l153, ↓b_i153, ↓b_wi153, ↓b_l154, ↓b_i154, ↓b_wi154, ↓b_l155, ↓b_j155, ↓b_wj155, ↓b_l156, ↓b_j156, ↓b_wj156, ↓b_l138, ↓b_j138, ↓b_wj138, ↓b_a5, ↓b_a13, ↓b_a44, ↓b_lA, ↓b_aA_0, ↓b_aA_1, ↓b_iA_2, ↓b_wiA_2, ↓b_iA_4, ↓b_wiA_4, ↓b_iA_5, ↓b_wiA_5, ↓b_iA_6, ↓b_wiA_6, ↓b_jA_3, ↓b_wjA_3, ↓b_lT, ↓b_lTc, ↓b_aT, ↓b_iT, ↓b_wiT, ↓b_iTc, ↓b_wiTc, ↓b_lW, ↓b_lWc, ↓b_aW, ↓b_iW, ↓b_wiW, ↓b_jWc, ↓b_wjWc, ↓b_rt, ↓b_ru, ↓b_wt, ↓b_wu, ↓b_0l, ↓b_0, ↓b_1, ↓b_2, m_tk, ↓reduceIte, cond_true, cond_false, Option.bind_some, e_Md_act_204, e_Md_act_226, e_Md_act_230, e_Md_act_231, e_Md_act_250, e_Md_act_264, e_Md_act_314, e_Md_act_332, e_Md_act_349, e_Md_act_350, show (-1 : Int32) < 0 by decide, m_uu, i_1_0, show ¬ (33 : Int32) = 126 by decide, show ¬ (33 : Int32) = 38 by decide, show ¬ (33 : Int32) = 36 by decide, ft3_0, i_11, i_01, i_1_0, i_0_1, not_true, not_false_eq_true, if_true, if_false, Bool.true_eq_false, Bool.false_eq_true, decide_true, decide_false]
        rfl
    · rw [if_neg c2] at z2 ⊢
      have h12 := vT_12 r1 c2
      have ne0 : ¬ nI ((ev w va self 4 m).1.1 - 10) = 0 := by rw [l_0, nI_eq (by omega) (by omega)]; exact h12.2.2
      have dd : decide ((ev w va self 4 m).1.1 - 10 = 0) = false := decide_eq_false h12.2.2
      refine ⟨f2, g2, ?_, mR_0 h12.2.1 hm2 z2 (fun h => absurd h h12.2.2) fz2 gz2⟩
      simp only
      rw [dd]
      simp (maxSteps := 4000000) (disch := first | omega | assumption) only [↓b_ix, ↓b_l3, ↓b_a3_0, ↓b_a3_1, ↓b_a3_2, ↓b_l4, ↓b_a4_0, ↓b_a4_1, ↓b_a4_2, ↓b_a4_3, ↓b_l129, ↓b_a129_0, ↓b_l130, ↓b_i130_1, ↓b_wi130_1, ↓b_l133, ↓b_a133_0, ↓b_a133_1, ↓b_i133_2, ↓b_wi133_2, ↓b_j133_3, ↓b_wj133_3, ↓b_i133_4, ↓b_wi133_4, ↓b_l134, ↓b_a134_0, ↓b_a134_1, ↓b_i134_2, ↓b_wi134_2, ↓b_i134_3, ↓b_wi134_3, ↓b_l135, ↓b_i135_1, ↓b_wi135_1, ↓b_l139, ↓b_a139_0, ↓b_a139_1, ↓b_a139_2, ↓b_a139_3, ↓b_a139_4, ↓b_a139_5, ↓b_a139_6, ↓b_a139_7, ↓b_a139_8, ↓b_a139_9, ↓b_a139_10, ↓b_a139_11, ↓b_a139_12, ↓b_a139_13, ↓b_a139_14, ↓b_i139_15, ↓b_wi139_15, ↓b_i139_16, ↓b_wi139_16, ↓b_i139_17, ↓b_wi139_17, ↓b_a139_18, ↓b_i139_19, ↓b_wi139_19, ↓b_i139_20, ↓b_wi139_20, ↓b_i139_21, ↓b_wi139_21, ↓b_l6, ↓b_i6, ↓b_wi6, ↓b_l140, ↓b_i140, ↓b_wi140, ↓b_l141, ↓b_i141, ↓b_wi141, ↓b_l142, ↓b_i142, ↓b_wi142, ↓b_l143, ↓b_i143, ↓b_wi143, ↓b_l144, ↓b_j144, ↓b_wj144, ↓b_l145, ↓b_j145, ↓b_wj145, ↓b_l146, ↓b_i146, ↓b_wi146, ↓b_l147, ↓b_i147, ↓b_wi147, ↓b_l148, ↓b_i148, ↓b_wi148, ↓b_l149, ↓b_i149, ↓b_wi149, ↓b_l150, ↓b_j150, ↓b_wj150, ↓b_l151, ↓b_i151, ↓b_wi151, ↓b_l152, ↓b_j152, ↓b_wj152, ↓b_l153, ↓b_i153, ↓b_wi153, ↓b_l154, ↓b_i154, ↓b_wi154, ↓b_l155, ↓b_j155, ↓b_wj155, ↓b_l156, ↓b_j156, ↓b_wj156, ↓b_l138, ↓b_j138, ↓b_wj138, ↓b_a5, ↓b_a13, ↓b_a44, ↓b_lA, ↓b_aA_0, ↓b_aA_1, ↓b_iA_2, ↓b_wiA_2, ↓b_iA_4, ↓b_wiA_4, ↓b_iA_5, ↓b_wiA_5, ↓b_iA_6, ↓b_wiA_6, ↓b_jA_3, ↓b_wjA_3, ↓b_lT, ↓b_lTc, ↓b_aT, ↓b_iT, ↓b_wiT, ↓b_iTc, ↓b_wiTc, ↓b_lW, ↓b_lWc, ↓b_aW, ↓b_iW, ↓b_wiW, ↓b_jWc, ↓b_wjWc, ↓b_rt, ↓b_ru, ↓b_wt, ↓b_wu, ↓b_0l, ↓b_0, ↓b_1, ↓b_2, m_tk, ↓reduceIte, cond_true, cond_false, Option.bind_some, y_Md_act, e_Md_act_0, e_Md_act_35, e_Md_act_36, e_Md_act_46, e_Md_act_96, e_Md_act_97, e_Md_act_109, e_Md_act_152, e_Md_act_171, e_Md_act_226, e_Md_act_230, e_Md_act_231, e_Md_act_250, e_Md_act_264, e_Md_act_280, e_Md_act_281, e_Md_act_314, e_Md_act_332, e_Md_act_349, e_Md_act_350, w0, show ¬ (33 : Int32) = 42 by decide, show ¬ (33 : Int32) = 64 by decide, b1, ↓bJ y1, y2, ↓bI ao, at1, ↓bJ z1, z2, ne0, i_11, i_01, i_1_0, i_0_1, not_true, not_false_eq_true, if_true, if_false, Bool.true_eq_false, Bool.false_eq_true, decide_true, decide_false]
      rfl
  · rw [if_neg c1] at y2 ⊢
    have h12 := vT_12 l1 c1
    have ne0 : ¬ nI ((ev w va self 4 (i + 1)).1.1 - 10) = 0 := by rw [l_0, nI_eq (by omega) (by omega)]; exact h12.2.2
    have dd : decide ((ev w va self 4 (i + 1)).1.1 - 10 = 0) = false := decide_eq_false h12.2.2
    refine ⟨f1, g1, ?_, mR_0 h12.2.1 hm1 y2 (fun h => absurd h h12.2.2) (fZ_M y4) (gZ_M y5)⟩
    simp only
    rw [dd]
    simp (maxSteps := 4000000) (disch := first | omega | assumption) only [↓b_ix, ↓b_l3, ↓b_a3_0, ↓b_a3_1, ↓b_a3_2, ↓b_l4, ↓b_a4_0, ↓b_a4_1, ↓b_a4_2, ↓b_a4_3, ↓b_l129, ↓b_a129_0, ↓b_l130, ↓b_i130_1, ↓b_wi130_1, ↓b_l133, ↓b_a133_0, ↓b_a133_1, ↓b_i133_2, ↓b_wi133_2, ↓b_j133_3, ↓b_wj133_3, ↓b_i133_4, ↓b_wi133_4, ↓b_l134, ↓b_a134_0, ↓b_a134_1, ↓b_i134_2, ↓b_wi134_2, ↓b_i134_3, ↓b_wi134_3, ↓b_l135, ↓b_i135_1, ↓b_wi135_1, ↓b_l139, ↓b_a139_0, ↓b_a139_1, ↓b_a139_2, ↓b_a139_3, ↓b_a139_4, ↓b_a139_5, ↓b_a139_6, ↓b_a139_7, ↓b_a139_8, ↓b_a139_9, ↓b_a139_10, ↓b_a139_11, ↓b_a139_12, ↓b_a139_13, ↓b_a139_14, ↓b_i139_15, ↓b_wi139_15, ↓b_i139_16, ↓b_wi139_16, ↓b_i139_17, ↓b_wi139_17, ↓b_a139_18, ↓b_i139_19, ↓b_wi139_19, ↓b_i139_20, ↓b_wi139_20, ↓b_i139_21, ↓b_wi139_21, ↓b_l6, ↓b_i6, ↓b_wi6, ↓b_l140, ↓b_i140, ↓b_wi140, ↓b_l141, ↓b_i141, ↓b_wi141, ↓b_l142, ↓b_i142, ↓b_wi142, ↓b_l143, ↓b_i143, ↓b_wi143, ↓b_l144, ↓b_j144, ↓b_wj144, ↓b_l145, ↓b_j145, ↓b_wj145, ↓b_l146, ↓b_i146, ↓b_wi146, ↓b_l147, ↓b_i147, ↓b_wi147, ↓b_l148, ↓b_i148, ↓b_wi148, ↓b_l149, ↓b_i149, ↓b_wi149, ↓b_l150, ↓b_j150, ↓b_wj150, ↓b_l151, ↓b_i151, ↓b_wi151, ↓b_l152, ↓b_j152, ↓b_wj152, ↓b_l153, ↓b_i153, ↓b_wi153, ↓b_l154, ↓b_i154, ↓b_wi154, ↓b_l155, ↓b_j155, ↓b_wj155, ↓b_l156, ↓b_j156, ↓b_wj156, ↓b_l138, ↓b_j138, ↓b_wj138, ↓b_a5, ↓b_a13, ↓b_a44, ↓b_lA, ↓b_aA_0, ↓b_aA_1, ↓b_iA_2, ↓b_wiA_2, ↓b_iA_4, ↓b_wiA_4, ↓b_iA_5, ↓b_wiA_5, ↓b_iA_6, ↓b_wiA_6, ↓b_jA_3, ↓b_wjA_3, ↓b_lT, ↓b_lTc, ↓b_aT, ↓b_iT, ↓b_wiT, ↓b_iTc, ↓b_wiTc, ↓b_lW, ↓b_lWc, ↓b_aW, ↓b_iW, ↓b_wiW, ↓b_jWc, ↓b_wjWc, ↓b_rt, ↓b_ru, ↓b_wt, ↓b_wu, ↓b_0l, ↓b_0, ↓b_1, ↓b_2, m_tk, ↓reduceIte, cond_true, cond_false, Option.bind_some, y_Md_act, e_Md_act_0, e_Md_act_35, e_Md_act_36, e_Md_act_46, e_Md_act_96, e_Md_act_97, e_Md_act_109, e_Md_act_152, e_Md_act_171, e_Md_act_226, e_Md_act_230, e_Md_act_231, e_Md_act_250, e_Md_act_264, e_Md_act_280, e_Md_act_281, e_Md_act_314, e_Md_act_332, e_Md_act_349, e_Md_act_350, w0, show ¬ (33 : Int32) = 42 by decide, show ¬ (33 : Int32) = 64 by decide, b1, ↓bJ y1, y2, ne0, i_11, i_01, i_1_0, i_0_1, not_true, not_false_eq_true, if_true, if_false, Bool.true_eq_false, Bool.false_eq_true, decide_true, decide_false]
    rfl
end MI
