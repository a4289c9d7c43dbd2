/-! THE MODEL'S WORLD -/
def frm (f f' : mF) : Prop := ∀ x k, (x < 140 ∨ 152 ≤ x) → f' x k = f x k
def frmg (g g' : mG) : Prop := ∀ x k, (x < 140 ∨ 152 ≤ x) → g' x k = g x k
theorem frm_r (f : mF) : frm f f := fun _ _ _ => rfl
theorem frmg_r (f : mG) : frmg f f := fun _ _ _ => rfl
theorem frm_t {f f' f'' : mF} (h : frm f f') (h' : frm f' f'') : frm f f'' := fun x k hx => (h' x k hx).trans (h x k hx)
theorem frmg_t {f f' f'' : mG} (h : frmg f f') (h' : frmg f' f'') : frmg f f'' := fun x k hx => (h' x k hx).trans (h x k hx)
theorem frm_u {f f' : mF} {A k : Nat} {v : Int32} (h : frm f f') (hA : 140 ≤ A ∧ A < 152) : frm f (m_u f' A k v) := fun x j hx => by rw [m_un (by omega)]; exact h x j hx
theorem frmg_w {f f' : mG} {A k : Nat} {v : Int64} (h : frmg f f') (hA : 140 ≤ A ∧ A < 152) : frmg f (m_w f' A k v) := fun x j hx => by rw [m_wn (by omega)]; exact h x j hx
theorem aU_id {a : sA} {x k v : Nat} (h : a x k = v) : aU a x k v = a := by
  funext y j; unfold aU; split
  · rename_i e; rw [e.1, e.2, h]
  · rfl
theorem aU_2 {a : sA} {x k v w : Nat} : aU (aU a x k v) x k w = aU a x k w := by funext y j; unfold aU; split <;> rfl
theorem aU_c {a : sA} {x k y j v w : Nat} (h : x ≠ y ∨ k ≠ j) : aU (aU a x k v) y j w = aU (aU a y j w) x k v := by
  funext p q; unfold aU
  by_cases h1 : p = y ∧ q = j
  · rw [if_pos h1, if_neg (by omega), if_pos h1]
  · rw [if_neg h1, if_neg h1]
section MW
variable {xs : List Int32} {f : mF} {g : mG} {t u c s d : Nat} {S : sS2}
theorem m_put {x y : Nat} {v : sTm} (hd : 1 ≤ d) (h : mA f g S.1 S.2) (hb : bd S.1) (hx : x < 7) (hy : y < 6) : ∃ f' g', am_Y d 115 [.ref 139, .int (nI x), .int (nI y), .long (mTh v)] (mM xs f g t u c s) = some (.inl none, mM xs f' g' t u c s) ∧ mA f' g' (pPut S (6 * x + y) v).1 (pPut S (6 * x + y) v).2 ∧ frm f f' ∧ frmg g g' := by
  obtain ⟨d, rfl⟩ : ∃ e, d = e + 1 := ⟨d - 1, by omega⟩
  have hc : f 151 (6 * x + y) = nI (S.1 6 (6 * x + y)) := h.2.2.2.2.2.2.1 _ (by omega)
  have h8 := hb.2.1 (6 * x + y) (by omega)
  have e1 : 6 * nI x + nI y = nI (6 * x + y) := by rw [l_6, nI_mul, nI_add]
  unfold pPut
  by_cases hn : S.1 6 (6 * x + y) < 8
  · rw [if_pos hn]
    have n8 : ¬ nI (S.1 6 (6 * x + y)) = 8 := by rw [l_8, nI_eq (by omega) (by omega)]; omega
    have e2 : 8 * nI (6 * x + y) + nI (S.1 6 (6 * x + y)) = nI (8 * (6 * x + y) + S.1 6 (6 * x + y)) := by rw [l_8, nI_mul, nI_add]
    refine ⟨_, _, ?_, mA_wput h (show 6 * x + y < 42 by omega) hn, frm_u (frm_r f) (by omega), frmg_w (frmg_r g) (by omega)⟩
    simp (maxSteps := 4000000) (disch := first | omega | assumption) only [↓b_ix, ↓b_l3, ↓b_a3_0, ↓b_a3_1, ↓b_a3_2, ↓b_l4, ↓b_a4_0, ↓b_a4_1, ↓b_a4_2, ↓b_a4_3, ↓b_l129, ↓b_a129_0, ↓b_l130, ↓b_i130_1, ↓b_wi130_1, ↓b_l133, ↓b_a133_0, ↓b_a133_1, ↓b_i133_2, ↓b_wi133_2, ↓b_j133_3, ↓b_wj133_3, ↓b_i133_4, ↓b_wi133_4, ↓b_l134, ↓b_a134_0, ↓b_a134_1, ↓b_i134_2, ↓b_wi134_2, ↓b_i134_3, ↓b_wi134_3, ↓b_l135, ↓b_i135_1, ↓b_wi135_1, ↓b_l139, ↓b_a139_0, ↓b_a139_1, ↓b_a139_2, ↓b_a139_3, ↓b_a139_4, ↓b_a139_5, ↓b_a139_6, ↓b_a139_7, ↓b_a139_8, ↓b_a139_9, ↓b_a139_10, ↓b_a139_11, ↓b_a139_12, ↓b_a139_13, ↓b_a139_14, ↓b_i139_15, ↓b_wi139_15, ↓b_i139_16, ↓b_wi139_16, ↓b_i139_17, ↓b_wi139_17, ↓b_a139_18, ↓b_i139_19, ↓b_wi139_19, ↓b_i139_20, ↓b_wi139_20, ↓b_i139_21, ↓b_wi139_21, ↓b_l6, ↓b_i6, ↓b_wi6, ↓b_l140, ↓b_i140, ↓b_wi140, ↓b_l141, ↓b_i141, ↓b_wi141, ↓b_l142, ↓b_i142, ↓b_wi142, ↓b_l143, ↓b_i143, ↓b_wi143, ↓b_l144, ↓b_j144, ↓b_wj144, ↓b_l145, ↓b_j145, ↓b_wj145, ↓b_l146, ↓b_i146, ↓b_wi146, ↓b_l147, ↓b_i147, ↓b_wi147, ↓b_l148, ↓b_i148, ↓b_wi148, ↓b_l149, ↓b_i149, ↓b_wi149, ↓b_l150, ↓b_j150, ↓b_wj150, ↓b_l151, ↓b_i151, ↓b_wi151, ↓b_l152, ↓b_j152, ↓b_wj152, ↓b_l153, ↓b_i153, ↓b_wi153, ↓b_l154, ↓b_i154, ↓b_wi154, ↓b_l155, ↓b_j155, ↓b_wj155, ↓b_l156, ↓b_j156, ↓b_wj156, ↓b_l138, ↓b_j138, ↓b_wj138, ↓b_a5, ↓b_a13, ↓b_a44, ↓b_lA, ↓b_aA_0, ↓b_aA_1, ↓b_iA_2, ↓b_wiA_2, ↓b_iA_4, ↓b_wiA_4, ↓b_iA_5, ↓b_wiA_5, ↓b_iA_6, ↓b_wiA_6, ↓b_jA_3, ↓b_wjA_3, ↓b_lT, ↓b_lTc, ↓b_aT, ↓b_iT, ↓b_wiT, ↓b_iTc, ↓b_wiTc, ↓b_lW, ↓b_lWc, ↓b_aW, ↓b_iW, ↓b_wiW, ↓b_jWc, ↓b_wjWc, ↓b_rt, ↓b_ru, ↓b_wt, ↓b_wu, ↓b_0l, ↓b_0, ↓b_1, ↓b_2, m_tk, ↓reduceIte, cond_true, cond_false, Option.bind_some, y_Md_put, e_Md_put_0, e_Md_put_21, e1, hc, n8, e2, nI_1, i_11, i_01, i_1_0, i_0_1, not_true, not_false_eq_true, if_true, if_false, Bool.true_eq_false, Bool.false_eq_true, decide_true, decide_false]
  · rw [if_neg hn]
    have n8 : nI (S.1 6 (6 * x + y)) = 8 := by rw [l_8, nI_eq (by omega) (by omega)]; omega
    refine ⟨f, g, ?_, h, frm_r f, frmg_r g⟩
    simp (maxSteps := 4000000) (disch := first | omega | assumption) only [↓b_ix, ↓b_l3, ↓b_a3_0, ↓b_a3_1, ↓b_a3_2, ↓b_l4, ↓b_a4_0, ↓b_a4_1, ↓b_a4_2, ↓b_a4_3, ↓b_l129, ↓b_a129_0, ↓b_l130, ↓b_i130_1, ↓b_wi130_1, ↓b_l133, ↓b_a133_0, ↓b_a133_1, ↓b_i133_2, ↓b_wi133_2, ↓b_j133_3, ↓b_wj133_3, ↓b_i133_4, ↓b_wi133_4, ↓b_l134, ↓b_a134_0, ↓b_a134_1, ↓b_i134_2, ↓b_wi134_2, ↓b_i134_3, ↓b_wi134_3, ↓b_l135, ↓b_i135_1, ↓b_wi135_1, ↓b_l139, ↓b_a139_0, ↓b_a139_1, ↓b_a139_2, ↓b_a139_3, ↓b_a139_4, ↓b_a139_5, ↓b_a139_6, ↓b_a139_7, ↓b_a139_8, ↓b_a139_9, ↓b_a139_10, ↓b_a139_11, ↓b_a139_12, ↓b_a139_13, ↓b_a139_14, ↓b_i139_15, ↓b_wi139_15, ↓b_i139_16, ↓b_wi139_16, ↓b_i139_17, ↓b_wi139_17, ↓b_a139_18, ↓b_i139_19, ↓b_wi139_19, ↓b_i139_20, ↓b_wi139_20, ↓b_i139_21, ↓b_wi139_21, ↓b_l6, ↓b_i6, ↓b_wi6, ↓b_l140, ↓b_i140, ↓b_wi140, ↓b_l141, ↓b_i141, ↓b_wi141, ↓b_l142, ↓b_i142, ↓b_wi142, ↓b_l143, ↓b_i143, ↓b_wi143, ↓b_l144, ↓b_j144, ↓b_wj144, ↓b_l145, ↓b_j145, ↓b_wj145, ↓b_l146, ↓b_i146, ↓b_wi146, ↓b_l147, ↓b_i147, ↓b_wi147, ↓b_l148, ↓b_i148, ↓b_wi148, ↓b_l149, ↓b_i149, ↓b_wi149, ↓b_l150, ↓b_j150, ↓b_wj150, ↓b_l151, ↓b_i151, ↓b_wi151, ↓b_l152, ↓b_j152, ↓b_wj152, ↓b_l153, ↓b_i153, ↓b_wi153, ↓b_l154, ↓b_i154, ↓b_wi154, ↓b_l155, ↓b_j155, ↓b_wj155, ↓b_l156, ↓b_j156, ↓b_wj156, ↓b_l138, ↓b_j138, ↓b_wj138, ↓b_a5, ↓b_a13, ↓b_a44, ↓b_lA, ↓b_aA_0, ↓b_aA_1, ↓b_iA_2, ↓b_wiA_2, ↓b_iA_4, ↓b_wiA_4, ↓b_iA_5, ↓b_wiA_5, ↓b_iA_6, ↓b_wiA_6, ↓b_jA_3, ↓b_wjA_3, ↓b_lT, ↓b_lTc, ↓b_aT, ↓b_iT, ↓b_wiT, ↓b_iTc, ↓b_wiTc, ↓b_lW, ↓b_lWc, ↓b_aW, ↓b_iW, ↓b_wiW, ↓b_jWc, ↓b_wjWc, ↓b_rt, ↓b_ru, ↓b_wt, ↓b_wu, ↓b_0l, ↓b_0, ↓b_1, ↓b_2, m_tk, ↓reduceIte, cond_true, cond_false, Option.bind_some, y_Md_put, e_Md_put_0, e_Md_put_21, e1, hc, n8, i_11, i_01, i_1_0, i_0_1, not_true, not_false_eq_true, if_true, if_false, Bool.true_eq_false, Bool.false_eq_true, decide_true, decide_false]
theorem m_link {x y v : Nat} (hd : 1 ≤ d) (hx : x < 6) (hy : y < 6) (hv : v < 2) : am_Y d 119 [.ref 139, .int (nI x), .int (nI y), .int (nI v)] (mM xs f g t u c s) = some (.inl none, mM xs (m_u (m_u f 149 (6 * x + y) (nI v)) 149 (6 * y + x) (nI v)) g t u c s) := by
  obtain ⟨d, rfl⟩ : ∃ e, d = e + 1 := ⟨d - 1, by omega⟩
  have e1 : 6 * nI x + nI y = nI (6 * x + y) := by rw [l_6, nI_mul, nI_add]
  have e2 : 6 * nI y + nI x = nI (6 * y + x) := by rw [l_6, nI_mul, nI_add]
  have ev : nI v &&& 1 = nI v := by
    have : ∀ v, v < 2 → nI v &&& 1 = nI v := by decide
    exact this v hv
  simp (maxSteps := 4000000) (disch := first | omega | assumption) only [↓b_ix, ↓b_l3, ↓b_a3_0, ↓b_a3_1, ↓b_a3_2, ↓b_l4, ↓b_a4_0, ↓b_a4_1, ↓b_a4_2, ↓b_a4_3, ↓b_l129, ↓b_a129_0, ↓b_l130, ↓b_i130_1, ↓b_wi130_1, ↓b_l133, ↓b_a133_0, ↓b_a133_1, ↓b_i133_2, ↓b_wi133_2, ↓b_j133_3, ↓b_wj133_3, ↓b_i133_4, ↓b_wi133_4, ↓b_l134, ↓b_a134_0, ↓b_a134_1, ↓b_i134_2, ↓b_wi134_2, ↓b_i134_3, ↓b_wi134_3, ↓b_l135, ↓b_i135_1, ↓b_wi135_1, ↓b_l139, ↓b_a139_0, ↓b_a139_1, ↓b_a139_2, ↓b_a139_3, ↓b_a139_4, ↓b_a139_5, ↓b_a139_6, ↓b_a139_7, ↓b_a139_8, ↓b_a139_9, ↓b_a139_10, ↓b_a139_11, ↓b_a139_12, ↓b_a139_13, ↓b_a139_14, ↓b_i139_15, ↓b_wi139_15, ↓b_i139_16, ↓b_wi139_16, ↓b_i139_17, ↓b_wi139_17, ↓b_a139_18, ↓b_i139_19, ↓b_wi139_19, ↓b_i139_20, ↓b_wi139_20, ↓b_i139_21, ↓b_wi139_21, ↓b_l6, ↓b_i6, ↓b_wi6, ↓b_l140, ↓b_i140, ↓b_wi140, ↓b_l141, ↓b_i141, ↓b_wi141, ↓b_l142, ↓b_i142, ↓b_wi142, ↓b_l143, ↓b_i143, ↓b_wi143, ↓b_l144, ↓b_j144, ↓b_wj144, ↓b_l145, ↓b_j145, ↓b_wj145, ↓b_l146, ↓b_i146, ↓b_wi146, ↓b_l147, ↓b_i147, ↓b_wi147, ↓b_l148, ↓b_i148, ↓b_wi148, ↓b_l149, ↓b_i149, ↓b_wi149, ↓b_l150, ↓b_j150, ↓b_wj150, ↓b_l151, ↓b_i151, ↓b_wi151, ↓b_l152, ↓b_j152, ↓b_wj152, ↓b_l153, ↓b_i153, ↓b_wi153, ↓b_l154, ↓b_i154, ↓b_wi154, ↓b_l155, ↓b_j155, ↓b_wj155, ↓b_l156, ↓b_j156, ↓b_wj156, ↓b_l138, ↓b_j138, ↓b_wj138, ↓b_a5, ↓b_a13, ↓b_a44, ↓b_lA, ↓b_aA_0, ↓b_aA_1, ↓b_iA_2, ↓b_wiA_2, ↓b_iA_4, ↓b_wiA_4, ↓b_iA_5, ↓b_wiA_5, ↓b_iA_6, ↓b_wiA_6, ↓b_jA_3, ↓b_wjA_3, ↓b_lT, ↓b_lTc, ↓b_aT, ↓b_iT, ↓b_wiT, ↓b_iTc, ↓b_wiTc, ↓b_lW, ↓b_lWc, ↓b_aW, ↓b_iW, ↓b_wiW, ↓b_jWc, ↓b_wjWc, ↓b_rt, ↓b_ru, ↓b_wt, ↓b_wu, ↓b_0l, ↓b_0, ↓b_1, ↓b_2, m_tk, ↓reduceIte, cond_true, cond_false, Option.bind_some, y_Md_link, e_Md_link_0, e1, e2, ev]
theorem bt_s : ∀ m, m < 64 → ∀ k, k < 6 → ∀ j, j < 6 → (m ||| 2 ^ k) / 2 ^ j % 2 = (if j = k then 1 else m / 2 ^ j % 2) := by decide +kernel
theorem bt_k : ∀ m, m < 64 → ∀ k, k < 6 → ∀ j, j < 6 → clr m k / 2 ^ j % 2 = (if j = k then 0 else m / 2 ^ j % 2) := by decide +kernel
theorem bt_h : ∀ m, m < 64 → ∀ o, o < 6 → ∀ j, j < 6 → (m / 2 ^ (o + 1) * 2 ^ (o + 1)) / 2 ^ j % 2 = (if j = o then 0 else (m / 2 ^ o * 2 ^ o) / 2 ^ j % 2) := by decide +kernel
theorem bt_h0 : ∀ m, m < 64 → ∀ o, o < 6 → (m / 2 ^ o * 2 ^ o) / 2 ^ o % 2 = m / 2 ^ o % 2 ∧ (m / 2 ^ o % 2 = 0 → m / 2 ^ (o + 1) * 2 ^ (o + 1) = m / 2 ^ o * 2 ^ o) := by decide +kernel
theorem m_pLink {x y : Nat} (hd : 1 ≤ d) (h : mA f g S.1 S.2) (hb : bd S.1) (hx : x < 6) (hy : y < 6) (hxy : ¬ x = y) (hal : S.1 1 y = 1) : ∃ f', am_Y d 119 [.ref 139, .int (nI x), .int (nI y), .int 1] (mM xs f g t u c s) = some (.inl none, mM xs f' g t u c s) ∧ mA f' g (pLink S x y).1 (pLink S x y).2 ∧ frm f f' := by
  have e := m_link (xs := xs) (f := f) (g := g) (t := t) (u := u) (c := c) (s := s) (v := 1) hd hx hy (by decide)
  refine ⟨_, e, ?_, frm_u (frm_u (frm_r f) (by omega)) (by omega)⟩
  unfold pLink
  rw [if_neg (by omega)]
  have h1 := (hb.1 x hx).2.2.1
  have hm1 := mA_lk (i := x) (k := y) (v := 1) (w := S.1 4 x ||| 2 ^ y) h hx hy (fun j hj => bt_s _ h1 y hy j hj)
  have h2 : (aU S.1 4 x (S.1 4 x ||| 2 ^ y)) 4 y < 64 := by rw [aU_n (by omega)]; exact (hb.1 y hy).2.2.1
  exact mA_lk (i := y) (k := x) (v := 1) (w := (aU S.1 4 x (S.1 4 x ||| 2 ^ y)) 4 y ||| 2 ^ x) hm1 hy hx (fun j hj => bt_s _ h2 x hx j hj)
def pc (m : Nat) : Nat → Nat
  | 0 => 0
  | o + 1 => pc m o + m / 2 ^ o % 2
theorem mTh_9 {a : Nat} (ha : a < 2013) : lN (tM 0 [a]) ||| 4611686018427387904 = mTh (9, [a]) := by
  have h := tM_lt (tv_0 ha)
  rw [j_62, lN_or]
  show _ = lN (4611686018427387904 + tM 0 [a])
  congr 1
  rw [show (4611686018427387904 : Nat) = 1 <<< 62 from rfl, or_shl (by omega)]; omega
theorem pc_s (m o : Nat) : pc m (o + 1) = pc m o + m / 2 ^ o % 2 := rfl
theorem pc_le : ∀ m o, pc m o ≤ o
  | _, 0 => Nat.le_refl 0
  | m, o + 1 => by unfold pc; have := pc_le m o; omega
theorem m_endL {i m why : Nat} (hd : 2 ≤ d) (hi : i < 6) (hm : m < 64) (hmi : m / 2 ^ i % 2 = 0) (hw : why < 2013) : ∀ q o {f : mF} {g : mG} {S : sS2}, q + o = 6 → S.1 4 i = 0 → mA f g (aU S.1 4 i (m / 2 ^ o * 2 ^ o)) S.2 → bd S.1 → ∃ f' g', am_X (am_Y d) k_Md_end 26 [(0, .ref 139), (1, .int (nI i)), (2, .int (nI why)), (3, .int (nI (pc m o))), (4, .int (nI o))] [] (mM xs f g t u c s) = some (.inl (some (.int (nI (pc m 6)))), mM xs f' g' t u c s) ∧ mA f' g' (pEndL m i why q o S).1 (pEndL m i why q o S).2 ∧ frm f f' ∧ frmg g g'
  | 0, o, f, g, S, hq, h0, h, hb => by
    have : o = 6 := by omega
    subst this
    refine ⟨f, g, ?_, ?_, frm_r f, frmg_r g⟩
    · rw [e_Md_end_26, l_6, if_pos (nI_le (by omega) (by omega)), e_Md_end_80]
    · have e : m / 2 ^ 6 * 2 ^ 6 = 0 := by rw [Nat.div_eq_of_lt hm]
      rw [e, aU_id h0] at h
      exact h
  | q + 1, o, f, g, S, hq, h0, h, hb => by
    have e6 : ¬ nI 6 ≤ nI o := by rw [nI_leI (by omega) (by omega)]; omega
    have ho : o < 6 := by omega
    have hb1 := bd_end1 (m := m) (why := why) hb hi ho
    have hb0 := bt_h0 m hm o ho
    have ei : 6 * nI i + nI o = nI (6 * i + o) := by rw [l_6, nI_mul, nI_add]
    have hl : f 149 (6 * i + o) = nI (m / 2 ^ o % 2) := by
      have := h.2.2.2.2.1 i hi o ho
      rw [aU_s, hb0.1] at this; exact this
    unfold pEndL
    by_cases hm0 : m / 2 ^ o % 2 = 0
    · have e : pEnd1 m i why o S = S := if_pos hm0
      rw [e]
      obtain ⟨f', g', e1, e2, e3, e4⟩ := m_endL hd hi hm hmi hw q (o + 1) (f := f) (g := g) (S := S) (by omega) h0 (by rw [hb0.2 hm0]; exact h) hb
      refine ⟨f', g', ?_, e2, e3, e4⟩
      rw [show pc m (o + 1) = pc m o by rw [pc_s]; omega] at e1
      rw [← e1, e_Md_end_26, l_6, if_neg e6, ← l_6]
      simp (maxSteps := 4000000) (disch := first | omega | assumption) only [↓b_ix, ↓b_l3, ↓b_a3_0, ↓b_a3_1, ↓b_a3_2, ↓b_l4, ↓b_a4_0, ↓b_a4_1, ↓b_a4_2, ↓b_a4_3, ↓b_l129, ↓b_a129_0, ↓b_l130, ↓b_i130_1, ↓b_wi130_1, ↓b_l133, ↓b_a133_0, ↓b_a133_1, ↓b_i133_2, ↓b_wi133_2, ↓b_j133_3, ↓b_wj133_3, ↓b_i133_4, ↓b_wi133_4, ↓b_l134, ↓b_a134_0, ↓b_a134_1, ↓b_i134_2, ↓b_wi134_2, ↓b_i134_3, ↓b_wi134_3, ↓b_l135, ↓b_i135_1, ↓b_wi135_1, ↓b_l139, ↓b_a139_0, ↓b_a139_1, ↓b_a139_2, ↓b_a139_3, ↓b_a139_4, ↓b_a139_5, ↓b_a139_6, ↓b_a139_7, ↓b_a139_8, ↓b_a139_9, ↓b_a139_10, ↓b_a139_11, ↓b_a139_12, ↓b_a139_13, ↓b_a139_14, ↓b_i139_15, ↓b_wi139_15, ↓b_i139_16, ↓b_wi139_16, ↓b_i139_17, ↓b_wi139_17, ↓b_a139_18, ↓b_i139_19, ↓b_wi139_19, ↓b_i139_20, ↓b_wi139_20, ↓b_i139_21, ↓b_wi139_21, ↓b_l6, ↓b_i6, ↓b_wi6, ↓b_l140, ↓b_i140, ↓b_wi140, ↓b_l141, ↓b_i141, ↓b_wi141, ↓b_l142, ↓b_i142, ↓b_wi142, ↓b_l143, ↓b_i143, ↓b_wi143, ↓b_l144, ↓b_j144, ↓b_wj144, ↓b_l145, ↓b_j145, ↓b_wj145, ↓b_l146, ↓b_i146, ↓b_wi146, ↓b_l147, ↓b_i147, ↓b_wi147, ↓b_l148, ↓b_i148, ↓b_wi148, ↓b_l149, ↓b_i149, ↓b_wi149, ↓b_l150, ↓b_j150, ↓b_wj150, ↓b_l151, ↓b_i151, ↓b_wi151, ↓b_l152, ↓b_j152, ↓b_wj152, ↓b_l153, ↓b_i153, ↓b_wi153, ↓b_l154, ↓b_i154, ↓b_wi154, ↓b_l155, ↓b_j155, ↓b_wj155, ↓b_l156, ↓b_j156, ↓b_wj156, ↓b_l138, ↓b_j138, ↓b_wj138, ↓b_a5, ↓b_a13, ↓b_a44, ↓b_lA, ↓b_aA_0, ↓b_aA_1, ↓b_iA_2, ↓b_wiA_2, ↓b_iA_4, ↓b_wiA_4, ↓b_iA_5, ↓b_wiA_5, ↓b_iA_6, ↓b_wiA_6, ↓b_jA_3, ↓b_wjA_3, ↓b_lT, ↓b_lTc, ↓b_aT, ↓b_iT, ↓b_wiT, ↓b_iTc, ↓b_wiTc, ↓b_lW, ↓b_lWc, ↓b_aW, ↓b_iW, ↓b_wiW, ↓b_jWc, ↓b_wjWc, ↓b_rt, ↓b_ru, ↓b_wt, ↓b_wu, ↓b_0l, ↓b_0, ↓b_1, ↓b_2, m_tk, ↓reduceIte, cond_true, cond_false, Option.bind_some, e_Md_end_0, e_Md_end_74, e_Md_end_80, ei, hl, hm0, nI_0, nI_1, i_11, i_01, i_1_0, i_0_1, not_true, not_false_eq_true, if_true, if_false, Bool.true_eq_false, Bool.false_eq_true, decide_true, decide_false]
    · have e : pEnd1 m i why o S = _ := if_neg hm0
      rw [e] at hb1 ⊢
      have hoi : ¬ o = i := fun hh => by rw [hh] at hm0; exact hm0 hmi
      have hbA : bd (aU S.1 4 i (m / 2 ^ o * 2 ^ o)) := bd_u hb ⟨by omega, by omega, fun _ => by have := Nat.div_mul_le_self m (2 ^ o); omega, by omega, by omega, by omega, by omega⟩
      obtain ⟨f1, g1, p1, p2, p3, p4⟩ := m_put (xs := xs) (t := t) (u := u) (c := c) (s := s) (S := (aU S.1 4 i (m / 2 ^ o * 2 ^ o), S.2)) (v := (9, [why])) (show 1 ≤ d by omega) h hbA (show i < 7 by omega) ho
      have pe : pPut (aU S.1 4 i (m / 2 ^ o * 2 ^ o), S.2) (6 * i + o) (9, [why]) = (aU (pPut S (6 * i + o) (9, [why])).1 4 i (m / 2 ^ o * 2 ^ o), (pPut S (6 * i + o) (9, [why])).2) := by
        unfold pPut
        have : (aU S.1 4 i (m / 2 ^ o * 2 ^ o), S.2).1 6 (6 * i + o) = S.1 6 (6 * i + o) := aU_n (a := S.1) (x := 4) (k := i) (v := m / 2 ^ o * 2 ^ o) (y := 6) (.inl (by decide))
        rw [this]
        split
        · show (aU (aU S.1 4 i _) 6 _ _, _) = (aU (aU S.1 6 _ _) 4 i _, _)
          rw [aU_c (.inl (by decide))]
        · rfl
      rw [pe] at p2
      have lk := m_link (xs := xs) (f := f1) (g := g1) (t := t) (u := u) (c := c) (s := s) (x := i) (y := o) (v := 0) (show 1 ≤ d by omega) hi ho (by decide)
      have hS1 : (pPut S (6 * i + o) (9, [why])).1 4 o < 64 := by rw [pPut_a (by decide)]; exact (hb.1 o ho).2.2.1
      have k1 := mA_lk (i := i) (k := o) (v := 0) (w := m / 2 ^ (o + 1) * 2 ^ (o + 1)) p2 hi ho (fun j hj => by show _ = if j = o then 0 else (aU (pPut S (6 * i + o) (9, [why])).1 4 i (m / 2 ^ o * 2 ^ o)) 4 i / 2 ^ j % 2; rw [aU_s]; exact bt_h m hm o ho j hj)
      simp only [aU_2] at k1
      have k2 := mA_lk (i := o) (k := i) (v := 0) (w := clr ((pPut S (6 * i + o) (9, [why])).1 4 o) i) k1 ho hi (fun j hj => by rw [aU_n (.inr hoi)]; exact bt_k _ hS1 i hi j hj)
      rw [aU_c (.inr (fun hh => hoi hh.symm))] at k2
      obtain ⟨f', g', e1, e2, e3, e4⟩ := m_endL hd hi hm hmi hw q (o + 1) (f := _) (g := g1) (S := (aU (pPut S (6 * i + o) (9, [why])).1 4 o (clr ((pPut S (6 * i + o) (9, [why])).1 4 o) i), (pPut S (6 * i + o) (9, [why])).2)) (by omega) (by show aU (pPut S (6 * i + o) (9, [why])).1 4 o _ 4 i = 0; rw [aU_n (.inr (fun hh => hoi hh.symm)), pPut_a (by decide)]; exact h0) k2 hb1
      refine ⟨f', g', ?_, e2, frm_t p3 (frm_t (frm_u (frm_u (frm_r f1) (by omega)) (by omega)) e3), frmg_t p4 e4⟩
      have n0 : ¬ nI (m / 2 ^ o % 2) = 0 := by rw [l_0, nI_eq (by omega) (by omega)]; exact hm0
      have pcs : nI (pc m o) + 1 = nI (pc m (o + 1)) := by rw [nI_1, pc_s]; congr 1; omega
      rw [show nI 0 = 0 from rfl] at lk
      have p1' : am_Y d 115 [.ref 139, .int (nI i), .int (nI o), .long (lN (tM 0 [why]) ||| 4611686018427387904)] (mM xs f g t u c s) = some (.inl none, mM xs f1 g1 t u c s) := by rw [mTh_9 hw]; exact p1
      rw [← e1, e_Md_end_26, l_6, if_neg e6, ← l_6]
      simp (maxSteps := 4000000) (disch := first | omega | assumption) only [↓b_ix, ↓b_l3, ↓b_a3_0, ↓b_a3_1, ↓b_a3_2, ↓b_l4, ↓b_a4_0, ↓b_a4_1, ↓b_a4_2, ↓b_a4_3, ↓b_l129, ↓b_a129_0, ↓b_l130, ↓b_i130_1, ↓b_wi130_1, ↓b_l133, ↓b_a133_0, ↓b_a133_1, ↓b_i133_2, ↓b_wi133_2, ↓b_j133_3, ↓b_wj133_3, ↓b_i133_4, ↓b_wi133_4, ↓b_l134, ↓b_a134_0, ↓b_a134_1, ↓b_i134_2, ↓b_wi134_2, ↓b_i134_3, ↓b_wi134_3, ↓b_l135, ↓b_i135_1, ↓b_wi135_1, ↓b_l139, ↓b_a139_0, ↓b_a139_1, ↓b_a139_2, ↓b_a139_3, ↓b_a139_4, ↓b_a139_5, ↓b_a139_6, ↓b_a139_7, ↓b_a139_8, ↓b_a139_9, ↓b_a139_10, ↓b_a139_11, ↓b_a139_12, ↓b_a139_13, ↓b_a139_14, ↓b_i139_15, ↓b_wi139_15, ↓b_i139_16, ↓b_wi139_16, ↓b_i139_17, ↓b_wi139_17, ↓b_a139_18, ↓b_i139_19, ↓b_wi139_19, ↓b_i139_20, ↓b_wi139_20, ↓b_i139_21, ↓b_wi139_21, ↓b_l6, ↓b_i6, ↓b_wi6, ↓b_l140, ↓b_i140, ↓b_wi140, ↓b_l141, ↓b_i141, ↓b_wi141, ↓b_l142, ↓b_i142, ↓b_wi142, ↓b_l143, ↓b_i143, ↓b_wi143, ↓b_l144, ↓b_j144, ↓b_wj144, ↓b_l145, ↓b_j145, ↓b_wj145, ↓b_l146, ↓b_i146, ↓b_wi146, ↓b_l147, ↓b_i147, ↓b_wi147, ↓b_l148, ↓b_i148, ↓b_wi148, ↓b_l149, ↓b_i149, ↓b_wi149, ↓b_l150, ↓b_j150, ↓b_wj150, ↓b_l151, ↓b_i151, ↓b_wi151, ↓b_l152, ↓b_j152, ↓b_wj152, ↓b_l153, ↓b_i153, ↓b_wi153, ↓b_l154, ↓b_i154, ↓b_wi154, ↓b_l155, ↓b_j155, ↓b_wj155, ↓b_l156, ↓b_j156, ↓b_wj156, ↓b_l138, ↓b_j138, ↓b_wj138, ↓b_a5, ↓b_a13, ↓b_a44, ↓b_lA, ↓b_aA_0, ↓b_aA_1, ↓b_iA_2, ↓b_wiA_2, ↓b_iA_4, ↓b_wiA_4, ↓b_iA_5, ↓b_wiA_5, ↓b_iA_6, ↓b_wiA_6, ↓b_jA_3, ↓b_wjA_3, ↓b_lT, ↓b_lTc, ↓b_aT, ↓b_iT, ↓b_wiT, ↓b_iTc, ↓b_wiTc, ↓b_lW, ↓b_lWc, ↓b_aW, ↓b_iW, ↓b_wiW, ↓b_jWc, ↓b_wjWc, ↓b_rt, ↓b_ru, ↓b_wt, ↓b_wu, ↓b_0l, ↓b_0, ↓b_1, ↓b_2, m_tk, ↓reduceIte, cond_true, cond_false, Option.bind_some, e_Md_end_0, e_Md_end_74, e_Md_end_80, ei, hl, n0, ↓bJ (t_leafTerm (show 1 ≤ d by omega) hw), ↓bV p1', ↓bV lk, pcs, nI_1, show nI 0 = 0 from rfl, i_11, i_01, i_1_0, i_0_1, not_true, not_false_eq_true, if_true, if_false, Bool.true_eq_false, Bool.false_eq_true, decide_true, decide_false]
theorem m_end {i why : Nat} (hd : 3 ≤ d) (h : mA f g S.1 S.2) (hb : bd S.1) (hi : i < 6) (hl : S.1 4 i / 2 ^ i % 2 = 0) (hw : why < 2013) : ∃ f' g', am_Y d 118 [.ref 139, .int (nI i), .int (nI why)] (mM xs f g t u c s) = some (.inl (some (.int (nI (pc (S.1 4 i) 6)))), mM xs f' g' t u c s) ∧ mA f' g' (pEnd S i why).1 (pEnd S i why).2 ∧ frm f f' ∧ frmg g g' := by
  obtain ⟨d, rfl⟩ : ∃ e, d = e + 1 := ⟨d - 1, by omega⟩
  have h1 := mA_st (v := 2) h hi (fun hh => absurd hh (by decide))
  have h2 := mA_mc (i := i) (v := 0) h1 hi (by rw [aU_n (by omega)]; exact Nat.zero_le _)
  have h3 := mA_re (i := i) (v := why) h2 hi
  have h4 := mA_tr0 (i := i) (v := 0) h3 hi (by rw [aU_n (by omega), aU_n (by omega), aU_s]; decide)
  have h5 := mA_sa0 (i := i) (v := (10, [])) h4 hi (by rw [aU_n (by omega), aU_n (by omega), aU_n (by omega), aU_s]; decide)
  have ea : aU (pEnd0 S i why).1 4 i (S.1 4 i / 2 ^ 0 * 2 ^ 0) = aU (aU (aU (aU S.1 1 i 2) 5 i 0) 3 i why) 2 i 0 := by
    show aU (aU (aU (aU (aU (aU S.1 1 i 2) 3 i why) 5 i 0) 2 i 0) 4 i 0) 4 i _ = _
    rw [aU_2, show S.1 4 i / 2 ^ 0 * 2 ^ 0 = S.1 4 i by omega, aU_id (by rw [aU_n (by omega), aU_n (by omega), aU_n (by omega), aU_n (by omega)])]
    rw [aU_c (x := 3) (y := 5) (.inl (by decide))]
  have h6 : mA (m_u (m_u (m_u f 143 i (nI 2)) 146 i (nI 0)) 148 i (nI why)) g (aU (pEnd0 S i why).1 4 i (S.1 4 i / 2 ^ 0 * 2 ^ 0)) (pEnd0 S i why).2 := by rw [ea]; exact h5
  obtain ⟨f', g', e1, e2, e3, e4⟩ := m_endL (xs := xs) (t := t) (u := u) (c := c) (s := s) (show 2 ≤ d by omega) hi (hb.1 i hi).2.2.1 hl hw 6 0 (S := pEnd0 S i why) rfl aU_s h6 (bd_end0 hb)
  refine ⟨f', g', ?_, e2, frm_t (frm_u (frm_u (frm_u (frm_r f) (by omega)) (by omega)) (by omega)) e3, e4⟩
  rw [← e1]
  simp (maxSteps := 4000000) (disch := first | omega | assumption) only [↓b_ix, ↓b_l3, ↓b_a3_0, ↓b_a3_1, ↓b_a3_2, ↓b_l4, ↓b_a4_0, ↓b_a4_1, ↓b_a4_2, ↓b_a4_3, ↓b_l129, ↓b_a129_0, ↓b_l130, ↓b_i130_1, ↓b_wi130_1, ↓b_l133, ↓b_a133_0, ↓b_a133_1, ↓b_i133_2, ↓b_wi133_2, ↓b_j133_3, ↓b_wj133_3, ↓b_i133_4, ↓b_wi133_4, ↓b_l134, ↓b_a134_0, ↓b_a134_1, ↓b_i134_2, ↓b_wi134_2, ↓b_i134_3, ↓b_wi134_3, ↓b_l135, ↓b_i135_1, ↓b_wi135_1, ↓b_l139, ↓b_a139_0, ↓b_a139_1, ↓b_a139_2, ↓b_a139_3, ↓b_a139_4, ↓b_a139_5, ↓b_a139_6, ↓b_a139_7, ↓b_a139_8, ↓b_a139_9, ↓b_a139_10, ↓b_a139_11, ↓b_a139_12, ↓b_a139_13, ↓b_a139_14, ↓b_i139_15, ↓b_wi139_15, ↓b_i139_16, ↓b_wi139_16, ↓b_i139_17, ↓b_wi139_17, ↓b_a139_18, ↓b_i139_19, ↓b_wi139_19, ↓b_i139_20, ↓b_wi139_20, ↓b_i139_21, ↓b_wi139_21, ↓b_l6, ↓b_i6, ↓b_wi6, ↓b_l140, ↓b_i140, ↓b_wi140, ↓b_l141, ↓b_i141, ↓b_wi141, ↓b_l142, ↓b_i142, ↓b_wi142, ↓b_l143, ↓b_i143, ↓b_wi143, ↓b_l144, ↓b_j144, ↓b_wj144, ↓b_l145, ↓b_j145, ↓b_wj145, ↓b_l146, ↓b_i146, ↓b_wi146, ↓b_l147, ↓b_i147, ↓b_wi147, ↓b_l148, ↓b_i148, ↓b_wi148, ↓b_l149, ↓b_i149, ↓b_wi149, ↓b_l150, ↓b_j150, ↓b_wj150, ↓b_l151, ↓b_i151, ↓b_wi151, ↓b_l152, ↓b_j152, ↓b_wj152, ↓b_l153, ↓b_i153, ↓b_wi153, ↓b_l154, ↓b_i154, ↓b_wi154, ↓b_l155, ↓b_j155, ↓b_wj155, ↓b_l156, ↓b_j156, ↓b_wj156, ↓b_l138, ↓b_j138, ↓b_wj138, ↓b_a5, ↓b_a13, ↓b_a44, ↓b_lA, ↓b_aA_0, ↓b_aA_1, ↓b_iA_2, ↓b_wiA_2, ↓b_iA_4, ↓b_wiA_4, ↓b_iA_5, ↓b_wiA_5, ↓b_iA_6, ↓b_wiA_6, ↓b_jA_3, ↓b_wjA_3, ↓b_lT, ↓b_lTc, ↓b_aT, ↓b_iT, ↓b_wiT, ↓b_iTc, ↓b_wiTc, ↓b_lW, ↓b_lWc, ↓b_aW, ↓b_iW, ↓b_wiW, ↓b_jWc, ↓b_wjWc, ↓b_rt, ↓b_ru, ↓b_wt, ↓b_wu, ↓b_0l, ↓b_0, ↓b_1, ↓b_2, m_tk, ↓reduceIte, cond_true, cond_false, Option.bind_some, y_Md_end, e_Md_end_0, e_Md_end_74, e_Md_end_80]
  rfl
theorem m_free (hd : 1 ≤ d) (h : mA f g S.1 S.2) (hb : bd S.1) : am_Y d 106 [.ref 139] (mM xs f g t u c s) = some (.inl (some (.int (match fFree S.1 6 0 with | none => 6 | some k => nI k))), mM xs f g t u c s) := by
  obtain ⟨d, rfl⟩ : ∃ e, d = e + 1 := ⟨d - 1, by omega⟩
  have key : ∀ q i, q + i = 6 → am_X (am_Y d) k_Md_free 2 [(0, .ref 139), (1, .int (nI i))] [] (mM xs f g t u c s) = some (.inl (some (.int (match fFree S.1 q i with | none => 6 | some k => nI k))), mM xs f g t u c s) := by
    intro q
    induction q with
    | zero =>
      intro i hq
      have : i = 6 := by omega
      subst this
      rw [e_Md_free_2, l_6, if_pos (nI_le (by omega) (by omega)), e_Md_free_23]; rfl
    | succ q ih =>
      intro i hq
      have e6 : ¬ nI 6 ≤ nI i := by rw [nI_leI (by omega) (by omega)]; omega
      have hs : f 143 i = nI (S.1 1 i) := h.2.1 i (by omega)
      have h2 := (hb.1 i (by omega)).1
      rw [e_Md_free_2, l_6, if_neg e6, ← l_6]
      unfold fFree
      by_cases h0 : S.1 1 i = 0
      · rw [if_pos h0]
        simp (maxSteps := 4000000) (disch := first | omega | assumption) only [↓b_ix, ↓b_l3, ↓b_a3_0, ↓b_a3_1, ↓b_a3_2, ↓b_l4, ↓b_a4_0, ↓b_a4_1, ↓b_a4_2, ↓b_a4_3, ↓b_l129, ↓b_a129_0, ↓b_l130, ↓b_i130_1, ↓b_wi130_1, ↓b_l133, ↓b_a133_0, ↓b_a133_1, ↓b_i133_2, ↓b_wi133_2, ↓b_j133_3, ↓b_wj133_3, ↓b_i133_4, ↓b_wi133_4, ↓b_l134, ↓b_a134_0, ↓b_a134_1, ↓b_i134_2, ↓b_wi134_2, ↓b_i134_3, ↓b_wi134_3, ↓b_l135, ↓b_i135_1, ↓b_wi135_1, ↓b_l139, ↓b_a139_0, ↓b_a139_1, ↓b_a139_2, ↓b_a139_3, ↓b_a139_4, ↓b_a139_5, ↓b_a139_6, ↓b_a139_7, ↓b_a139_8, ↓b_a139_9, ↓b_a139_10, ↓b_a139_11, ↓b_a139_12, ↓b_a139_13, ↓b_a139_14, ↓b_i139_15, ↓b_wi139_15, ↓b_i139_16, ↓b_wi139_16, ↓b_i139_17, ↓b_wi139_17, ↓b_a139_18, ↓b_i139_19, ↓b_wi139_19, ↓b_i139_20, ↓b_wi139_20, ↓b_i139_21, ↓b_wi139_21, ↓b_l6, ↓b_i6, ↓b_wi6, ↓b_l140, ↓b_i140, ↓b_wi140, ↓b_l141, ↓b_i141, ↓b_wi141, ↓b_l142, ↓b_i142, ↓b_wi142, ↓b_l143, ↓b_i143, ↓b_wi143, ↓b_l144, ↓b_j144, ↓b_wj144, ↓b_l145, ↓b_j145, ↓b_wj145, ↓b_l146, ↓b_i146, ↓b_wi146, ↓b_l147, ↓b_i147, ↓b_wi147, ↓b_l148, ↓b_i148, ↓b_wi148, ↓b_l149, ↓b_i149, ↓b_wi149, ↓b_l150, ↓b_j150, ↓b_wj150, ↓b_l151, ↓b_i151, ↓b_wi151, ↓b_l152, ↓b_j152, ↓b_wj152, ↓b_l153, ↓b_i153, ↓b_wi153, ↓b_l154, ↓b_i154, ↓b_wi154, ↓b_l155, ↓b_j155, ↓b_wj155, ↓b_l156, ↓b_j156, ↓b_wj156, ↓b_l138, ↓b_j138, ↓b_wj138, ↓b_a5, ↓b_a13, ↓b_a44, ↓b_lA, ↓b_aA_0, ↓b_aA_1, ↓b_iA_2, ↓b_wiA_2, ↓b_iA_4, ↓b_wiA_4, ↓b_iA_5, ↓b_wiA_5, ↓b_iA_6, ↓b_wiA_6, ↓b_jA_3, ↓b_wjA_3, ↓b_lT, ↓b_lTc, ↓b_aT, ↓b_iT, ↓b_wiT, ↓b_iTc, ↓b_wiTc, ↓b_lW, ↓b_lWc, ↓b_aW, ↓b_iW, ↓b_wiW, ↓b_jWc, ↓b_wjWc, ↓b_rt, ↓b_ru, ↓b_wt, ↓b_wu, ↓b_0l, ↓b_0, ↓b_1, ↓b_2, m_tk, ↓reduceIte, cond_true, cond_false, Option.bind_some, e_Md_free_23, hs, h0, nI_0, i_11, i_01, i_1_0, i_0_1, not_true, not_false_eq_true, if_true, if_false, Bool.true_eq_false, Bool.false_eq_true, decide_true, decide_false]
      · rw [if_neg h0, ← ih (i + 1) (by omega)]
        have n0 : ¬ nI (S.1 1 i) = 0 := by rw [l_0, nI_eq (by omega) (by omega)]; exact h0
        simp (maxSteps := 4000000) (disch := first | omega | assumption) only [↓b_ix, ↓b_l3, ↓b_a3_0, ↓b_a3_1, ↓b_a3_2, ↓b_l4, ↓b_a4_0, ↓b_a4_1, ↓b_a4_2, ↓b_a4_3, ↓b_l129, ↓b_a129_0, ↓b_l130, ↓b_i130_1, ↓b_wi130_1, ↓b_l133, ↓b_a133_0, ↓b_a133_1, ↓b_i133_2, ↓b_wi133_2, ↓b_j133_3, ↓b_wj133_3, ↓b_i133_4, ↓b_wi133_4, ↓b_l134, ↓b_a134_0, ↓b_a134_1, ↓b_i134_2, ↓b_wi134_2, ↓b_i134_3, ↓b_wi134_3, ↓b_l135, ↓b_i135_1, ↓b_wi135_1, ↓b_l139, ↓b_a139_0, ↓b_a139_1, ↓b_a139_2, ↓b_a139_3, ↓b_a139_4, ↓b_a139_5, ↓b_a139_6, ↓b_a139_7, ↓b_a139_8, ↓b_a139_9, ↓b_a139_10, ↓b_a139_11, ↓b_a139_12, ↓b_a139_13, ↓b_a139_14, ↓b_i139_15, ↓b_wi139_15, ↓b_i139_16, ↓b_wi139_16, ↓b_i139_17, ↓b_wi139_17, ↓b_a139_18, ↓b_i139_19, ↓b_wi139_19, ↓b_i139_20, ↓b_wi139_20, ↓b_i139_21, ↓b_wi139_21, ↓b_l6, ↓b_i6, ↓b_wi6, ↓b_l140, ↓b_i140, ↓b_wi140, ↓b_l141, ↓b_i141, ↓b_wi141, ↓b_l142, ↓b_i142, ↓b_wi142, ↓b_l143, ↓b_i143, ↓b_wi143, ↓b_l144, ↓b_j144, ↓b_wj144, ↓b_l145, ↓b_j145, ↓b_wj145, ↓b_l146, ↓b_i146, ↓b_wi146, ↓b_l147, ↓b_i147, ↓b_wi147, ↓b_l148, ↓b_i148, ↓b_wi148, ↓b_l149, ↓b_i149, ↓b_wi149, ↓b_l150, ↓b_j150, ↓b_wj150, ↓b_l151, ↓b_i151, ↓b_wi151, ↓b_l152, ↓b_j152, ↓b_wj152, ↓b_l153, ↓b_i153, ↓b_wi153, ↓b_l154, ↓b_i154, ↓b_wi154, ↓b_l155, ↓b_j155, ↓b_wj155, ↓b_l156, ↓b_j156, ↓b_wj156, ↓b_l138, ↓b_j138, ↓b_wj138, ↓b_a5, ↓b_a13, ↓b_a44, ↓b_lA, ↓b_aA_0, ↓b_aA_1, ↓b_iA_2, ↓b_wiA_2, ↓b_iA_4, ↓b_wiA_4, ↓b_iA_5, ↓b_wiA_5, ↓b_iA_6, ↓b_wiA_6, ↓b_jA_3, ↓b_wjA_3, ↓b_lT, ↓b_lTc, ↓b_aT, ↓b_iT, ↓b_wiT, ↓b_iTc, ↓b_wiTc, ↓b_lW, ↓b_lWc, ↓b_aW, ↓b_iW, ↓b_wiW, ↓b_jWc, ↓b_wjWc, ↓b_rt, ↓b_ru, ↓b_wt, ↓b_wu, ↓b_0l, ↓b_0, ↓b_1, ↓b_2, m_tk, ↓reduceIte, cond_true, cond_false, Option.bind_some, hs, n0, nI_1, i_11, i_01, i_1_0, i_0_1, not_true, not_false_eq_true, if_true, if_false, Bool.true_eq_false, Bool.false_eq_true, decide_true, decide_false]
  rw [y_Md_free, e_Md_free_0]
  exact key 6 0 rfl
theorem mA_cp {a : sA} {b : sQ} {p i n : Nat} {F : mF} (h : mA f g a b) (hp : p < 3) (hi : i < 6) (h60 : a 7 p ≤ 60) (hF : ∀ x k, x ≠ 140 → x ≠ 141 → F x k = f x k) (hF1 : ∀ k, F 141 k = m_u f 141 (3 + i) (nI (a 7 p)) 141 k) (hF0 : ∀ k, F 140 k = if 60 * (3 + i) ≤ k ∧ k < 60 * (3 + i) + a 7 p then f 140 (60 * p + (k - 60 * (3 + i))) else f 140 k) : mA F g (aU (aCp a p i) 7 (3 + i) (a 7 p)) b := by
  obtain ⟨h0, h1, h2, h3, h4, h5, h6, h7, h8, h9, h10, h11, h12⟩ := h
  refine ⟨fun j hj => by rw [hF _ _ (by omega) (by omega), aU_n (by omega), aCp_n (by omega)]; exact h0 j hj, fun j hj => by rw [hF _ _ (by omega) (by omega), aU_n (by omega), aCp_n (by omega)]; exact h1 j hj, fun j hj e => by rw [aU_n (by omega), aCp_n (by omega)] at e; rw [hF _ _ (by omega) (by omega), aU_n (by omega), aCp_n (by omega)]; exact h2 j hj e, fun j hj e => by rw [aU_n (by omega), aCp_n (by omega)] at e; rw [hF _ _ (by omega) (by omega), aU_n (by omega), aCp_n (by omega)]; exact h3 j hj e, fun j hj k hk => by rw [hF _ _ (by omega) (by omega), aU_n (by omega), aCp_n (by omega)]; exact h4 j hj k hk, fun j hj => by rw [hF _ _ (by omega) (by omega), aU_n (by omega), aCp_n (by omega)]; exact h5 j hj, fun j hj => by rw [hF _ _ (by omega) (by omega), aU_n (by omega), aCp_n (by omega)]; exact h6 j hj, fun j hj e => by rw [aU_n (by omega), aCp_n (by omega)] at e; exact h7 j hj e, fun j hj k hk e => by rw [aU_n (by omega), aCp_n (by omega)] at e; exact h8 j hj k hk e, fun j hj k hk e => by rw [aU_n (by omega), aCp_n (by omega)] at e; exact h9 j hj k hk e, fun q hq => ?_, fun q hq k hk e => ?_, ?_⟩
  · rw [hF1]
    by_cases e : q = 3 + i
    · subst e; rw [m_uu, aU_s]
    · rw [m_un (by omega), aU_n (by omega), aCp_n (by omega)]; exact h10 q hq
  · rw [hF0]
    by_cases e2 : q = 3 + i
    · subst e2
      rw [aU_s] at e
      rw [if_pos (by omega), aU_n (by omega), show 10 + (3 + i) = 13 + i by omega, aCp_s, show 60 * (3 + i) + k - 60 * (3 + i) = k by omega]; exact h11 p (by omega) k hk e
    · rw [aU_n (by omega), aCp_n (by omega)] at e
      rw [if_neg (by omega), aU_n (by omega), aCp_n (by omega)]; exact h11 q hq k hk e
  · obtain ⟨fo, q1, q2⟩ := h12
    exact ⟨fo, q1, by rw [hF _ _ (by omega) (by omega)]; exact q2⟩
theorem m_makeL {p i n : Nat} {F : mF} {cal : aY} (hp : p < 3) (hi : i < 6) (hn : n ≤ 60) (hl : F 141 p = nI n) : ∀ q k, q + k = n → am_X cal k_Md_make 56 [(0, .ref 139), (1, .int (nI p)), (4, .int (nI i)), (5, .int (nI k))] [] (mM xs (fun x j => if x = 140 ∧ 60 * (3 + i) ≤ j ∧ j < 60 * (3 + i) + k then F 140 (60 * p + (j - 60 * (3 + i))) else F x j) g t u c s) = some (.inl (some (.int (nI i))), mM xs (fun x j => if x = 140 ∧ 60 * (3 + i) ≤ j ∧ j < 60 * (3 + i) + n then F 140 (60 * p + (j - 60 * (3 + i))) else F x j) g t u c s)
  | 0, k, hq => by
    have : k = n := by omega
    subst this
    rw [e_Md_make_56]
    simp (maxSteps := 4000000) (disch := first | omega | assumption) only [↓b_ix, ↓b_l3, ↓b_a3_0, ↓b_a3_1, ↓b_a3_2, ↓b_l4, ↓b_a4_0, ↓b_a4_1, ↓b_a4_2, ↓b_a4_3, ↓b_l129, ↓b_a129_0, ↓b_l130, ↓b_i130_1, ↓b_wi130_1, ↓b_l133, ↓b_a133_0, ↓b_a133_1, ↓b_i133_2, ↓b_wi133_2, ↓b_j133_3, ↓b_wj133_3, ↓b_i133_4, ↓b_wi133_4, ↓b_l134, ↓b_a134_0, ↓b_a134_1, ↓b_i134_2, ↓b_wi134_2, ↓b_i134_3, ↓b_wi134_3, ↓b_l135, ↓b_i135_1, ↓b_wi135_1, ↓b_l139, ↓b_a139_0, ↓b_a139_1, ↓b_a139_2, ↓b_a139_3, ↓b_a139_4, ↓b_a139_5, ↓b_a139_6, ↓b_a139_7, ↓b_a139_8, ↓b_a139_9, ↓b_a139_10, ↓b_a139_11, ↓b_a139_12, ↓b_a139_13, ↓b_a139_14, ↓b_i139_15, ↓b_wi139_15, ↓b_i139_16, ↓b_wi139_16, ↓b_i139_17, ↓b_wi139_17, ↓b_a139_18, ↓b_i139_19, ↓b_wi139_19, ↓b_i139_20, ↓b_wi139_20, ↓b_i139_21, ↓b_wi139_21, ↓b_l6, ↓b_i6, ↓b_wi6, ↓b_l140, ↓b_i140, ↓b_wi140, ↓b_l141, ↓b_i141, ↓b_wi141, ↓b_l142, ↓b_i142, ↓b_wi142, ↓b_l143, ↓b_i143, ↓b_wi143, ↓b_l144, ↓b_j144, ↓b_wj144, ↓b_l145, ↓b_j145, ↓b_wj145, ↓b_l146, ↓b_i146, ↓b_wi146, ↓b_l147, ↓b_i147, ↓b_wi147, ↓b_l148, ↓b_i148, ↓b_wi148, ↓b_l149, ↓b_i149, ↓b_wi149, ↓b_l150, ↓b_j150, ↓b_wj150, ↓b_l151, ↓b_i151, ↓b_wi151, ↓b_l152, ↓b_j152, ↓b_wj152, ↓b_l153, ↓b_i153, ↓b_wi153, ↓b_l154, ↓b_i154, ↓b_wi154, ↓b_l155, ↓b_j155, ↓b_wj155, ↓b_l156, ↓b_j156, ↓b_wj156, ↓b_l138, ↓b_j138, ↓b_wj138, ↓b_a5, ↓b_a13, ↓b_a44, ↓b_lA, ↓b_aA_0, ↓b_aA_1, ↓b_iA_2, ↓b_wiA_2, ↓b_iA_4, ↓b_wiA_4, ↓b_iA_5, ↓b_wiA_5, ↓b_iA_6, ↓b_wiA_6, ↓b_jA_3, ↓b_wjA_3, ↓b_lT, ↓b_lTc, ↓b_aT, ↓b_iT, ↓b_wiT, ↓b_iTc, ↓b_wiTc, ↓b_lW, ↓b_lWc, ↓b_aW, ↓b_iW, ↓b_wiW, ↓b_jWc, ↓b_wjWc, ↓b_rt, ↓b_ru, ↓b_wt, ↓b_wu, ↓b_0l, ↓b_0, ↓b_1, ↓b_2, m_tk, ↓reduceIte, cond_true, cond_false, Option.bind_some, e_Md_make_0, e_Md_make_100, nI_leI]
    rw [if_neg (show ¬ ((141 : Nat) = 140 ∧ 60 * (3 + i) ≤ p ∧ p < 60 * (3 + i) + k) by omega), hl, if_pos (nI_le (by omega) (by omega))]
  | q + 1, k, hq => by
    have ih := m_makeL (cal := cal) hp hi hn hl q (k + 1) (by omega)
    have e1 : 60 * nI p + nI k = nI (60 * p + k) := by rw [l_60, nI_mul, nI_add]
    have e2 : 60 * (3 + nI i) + nI k = nI (60 * (3 + i) + k) := by rw [l_60, l_3, nI_add, nI_mul, nI_add]
    have hw : m_u (fun x j => if x = 140 ∧ 60 * (3 + i) ≤ j ∧ j < 60 * (3 + i) + k then F 140 (60 * p + (j - 60 * (3 + i))) else F x j) 140 (60 * (3 + i) + k) (F 140 (60 * p + k)) = (fun x j => if x = 140 ∧ 60 * (3 + i) ≤ j ∧ j < 60 * (3 + i) + (k + 1) then F 140 (60 * p + (j - 60 * (3 + i))) else F x j) := by
      funext x j
      simp only [m_u]
      by_cases a1 : x = 140 ∧ j = 60 * (3 + i) + k
      · rw [if_pos a1, if_pos (by omega), a1.2, show 60 * (3 + i) + k - 60 * (3 + i) = k by omega]
      · rw [if_neg a1]
        by_cases a2 : x = 140 ∧ 60 * (3 + i) ≤ j ∧ j < 60 * (3 + i) + k
        · rw [if_pos a2, if_pos (by omega)]
        · rw [if_neg a2, if_neg (by omega)]
    rw [← hw] at ih
    have r1 : (if (141 : Nat) = 140 ∧ 60 * (3 + i) ≤ p ∧ p < 60 * (3 + i) + k then F 140 (60 * p + (p - 60 * (3 + i))) else F 141 p) = nI n := by rw [if_neg (by omega), hl]
    have r2 : (if True ∧ 60 * (3 + i) ≤ 60 * p + k ∧ 60 * p + k < 60 * (3 + i) + k then F 140 (60 * p + (60 * p + k - 60 * (3 + i))) else F 140 (60 * p + k)) = F 140 (60 * p + k) := by rw [if_neg (by omega)]
    have nle : ¬ nI n ≤ nI k := by rw [nI_leI (by omega) (by omega)]; omega
    rw [← ih, e_Md_make_56]
    simp (maxSteps := 4000000) (disch := first | omega | assumption) only [↓b_a139_1, ↓b_ix, ↓b_i141, ↓b_a139_0, e1, e2, ↓b_i140, ↓b_wi140, nI_1]
    rw [r1, if_neg nle, r2]
theorem m_make {p i : Nat} {st : sTm} (hd : 2 ≤ d) (h : mA f g S.1 S.2) (hb : bd S.1) (hp : p < 3) (hf : fFree S.1 6 0 = some i) (h2 : S.1 2 i = 0) (h5 : S.1 5 i = 0) : ∃ f' g', am_Y d 109 [.ref 139, .int (nI p), .long (mTh st)] (mM xs f g t u c s) = some (.inl (some (.int (nI i))), mM xs f' g' t u c s) ∧ mA f' g' (mkA S.1 p i) (bU S.2 0 i st) ∧ frm f f' ∧ frmg g g' := by
  obtain ⟨d, rfl⟩ : ∃ e, d = e + 1 := ⟨d - 1, by omega⟩
  have fr := m_free (xs := xs) (t := t) (u := u) (c := c) (s := s) (show 1 ≤ d by omega) h hb
  rw [hf] at fr
  obtain ⟨_, hi, h0⟩ := fFree_s 6 0 i hf
  have hi : i < 6 := by omega
  have h60 := hb.2.2.1 p (by omega)
  -- the state before the text
  have a1 : mA (m_u f 147 i (nI 0)) (m_w g 144 i (mTh st)) S.1 (bU S.2 0 i st) := by
    have := mA_tr (v := 0) (mA_sa (v := st) h hi) hi
    rw [aU_id h2] at this; exact this
  have a2 : mA (m_u (m_u f 147 i (nI 0)) 143 i (nI 1)) (m_w g 144 i (mTh st)) (aU S.1 1 i 1) (bU S.2 0 i st) := mA_st a1 hi (fun _ => ⟨by rw [m_uu, h2], by rw [m_ww, bU_s]⟩)
  have hl : f 141 p = nI (S.1 7 p) := h.2.2.2.2.2.2.2.2.2.2.1 p (by omega)
  have h146 : f 146 i = nI 0 := by rw [← h5]; exact h.2.2.2.2.2.1 i hi
  have ec : m_u (m_u (m_u f 143 i 1) 146 i 0) 147 i 0 = m_u (m_u f 147 i (nI 0)) 143 i (nI 1) := by
    rw [show m_u (m_u f 143 i 1) 146 i 0 = m_u f 143 i 1 from m_us (by rw [m_un (by omega), h146]; rfl)]
    funext x k; simp only [m_u]
    by_cases e1 : x = 147 ∧ k = i
    · rw [if_pos e1, if_neg (by omega), if_pos e1]; rfl
    · rw [if_neg e1]
      by_cases e2 : x = 143 ∧ k = i
      · rw [if_pos e2, if_pos e2]; rfl
      · rw [if_neg e2, if_neg e2, if_neg e1]
  have lk := m_makeL (xs := xs) (g := m_w g 144 i (mTh st)) (t := t) (u := u) (c := c) (s := s) (cal := am_Y d) (F := m_u (m_u (m_u f 147 i (nI 0)) 143 i (nI 1)) 141 (3 + i) (nI (S.1 7 p))) hp hi h60 (by rw [m_un (by omega), m_un (by omega), m_un (by omega)]; exact hl) (S.1 7 p) 0 (by omega)
  rw [show (fun x j => if x = 140 ∧ 60 * (3 + i) ≤ j ∧ j < 60 * (3 + i) + 0 then m_u (m_u (m_u f 147 i (nI 0)) 143 i (nI 1)) 141 (3 + i) (nI (S.1 7 p)) 140 (60 * p + (j - 60 * (3 + i))) else m_u (m_u (m_u f 147 i (nI 0)) 143 i (nI 1)) 141 (3 + i) (nI (S.1 7 p)) x j) = m_u (m_u (m_u f 147 i (nI 0)) 143 i (nI 1)) 141 (3 + i) (nI (S.1 7 p)) from (by funext x j; rw [if_neg (by omega)])] at lk
  have em : aU (aCp (aU S.1 1 i 1) p i) 7 (3 + i) ((aU S.1 1 i 1) 7 p) = mkA S.1 p i := by
    show _ = aU (aU (aCp S.1 p i) 7 (3 + i) (S.1 7 p)) 1 i 1
    rw [aU_c (x := 7) (y := 1) (.inl (by decide)), aU_n (a := S.1) (x := 1) (y := 7) (.inl (by decide))]
    congr 1
    funext y j
    simp only [aCp, aU]
    by_cases e1 : y = 13 + i
    · rw [if_pos e1, if_neg (by omega), if_neg (by omega), if_pos e1]
    · rw [if_neg e1, if_neg e1]
  refine ⟨fun x j => if x = 140 ∧ 60 * (3 + i) ≤ j ∧ j < 60 * (3 + i) + S.1 7 p then m_u (m_u (m_u f 147 i (nI 0)) 143 i (nI 1)) 141 (3 + i) (nI (S.1 7 p)) 140 (60 * p + (j - 60 * (3 + i))) else m_u (m_u (m_u f 147 i (nI 0)) 143 i (nI 1)) 141 (3 + i) (nI (S.1 7 p)) x j, m_w g 144 i (mTh st), ?_, ?_, ?_, frmg_w (frmg_r g) (by omega)⟩
  · rw [← lk]
    have e3 : 3 + nI i = nI (3 + i) := by rw [l_3, nI_add]
    have hl2 : m_u (m_u f 147 i (nI 0)) 143 i (nI 1) 141 p = nI (S.1 7 p) := by rw [m_un (by omega), m_un (by omega)]; exact hl
    simp (maxSteps := 4000000) (disch := first | omega | assumption) only [↓b_ix, ↓b_l3, ↓b_a3_0, ↓b_a3_1, ↓b_a3_2, ↓b_l4, ↓b_a4_0, ↓b_a4_1, ↓b_a4_2, ↓b_a4_3, ↓b_l129, ↓b_a129_0, ↓b_l130, ↓b_i130_1, ↓b_wi130_1, ↓b_l133, ↓b_a133_0, ↓b_a133_1, ↓b_i133_2, ↓b_wi133_2, ↓b_j133_3, ↓b_wj133_3, ↓b_i133_4, ↓b_wi133_4, ↓b_l134, ↓b_a134_0, ↓b_a134_1, ↓b_i134_2, ↓b_wi134_2, ↓b_i134_3, ↓b_wi134_3, ↓b_l135, ↓b_i135_1, ↓b_wi135_1, ↓b_l139, ↓b_a139_0, ↓b_a139_1, ↓b_a139_2, ↓b_a139_3, ↓b_a139_4, ↓b_a139_5, ↓b_a139_6, ↓b_a139_7, ↓b_a139_8, ↓b_a139_9, ↓b_a139_10, ↓b_a139_11, ↓b_a139_12, ↓b_a139_13, ↓b_a139_14, ↓b_i139_15, ↓b_wi139_15, ↓b_i139_16, ↓b_wi139_16, ↓b_i139_17, ↓b_wi139_17, ↓b_a139_18, ↓b_i139_19, ↓b_wi139_19, ↓b_i139_20, ↓b_wi139_20, ↓b_i139_21, ↓b_wi139_21, ↓b_l6, ↓b_i6, ↓b_wi6, ↓b_l140, ↓b_i140, ↓b_wi140, ↓b_l141, ↓b_i141, ↓b_wi141, ↓b_l142, ↓b_i142, ↓b_wi142, ↓b_l143, ↓b_i143, ↓b_wi143, ↓b_l144, ↓b_j144, ↓b_wj144, ↓b_l145, ↓b_j145, ↓b_wj145, ↓b_l146, ↓b_i146, ↓b_wi146, ↓b_l147, ↓b_i147, ↓b_wi147, ↓b_l148, ↓b_i148, ↓b_wi148, ↓b_l149, ↓b_i149, ↓b_wi149, ↓b_l150, ↓b_j150, ↓b_wj150, ↓b_l151, ↓b_i151, ↓b_wi151, ↓b_l152, ↓b_j152, ↓b_wj152, ↓b_l153, ↓b_i153, ↓b_wi153, ↓b_l154, ↓b_i154, ↓b_wi154, ↓b_l155, ↓b_j155, ↓b_wj155, ↓b_l156, ↓b_j156, ↓b_wj156, ↓b_l138, ↓b_j138, ↓b_wj138, ↓b_a5, ↓b_a13, ↓b_a44, ↓b_lA, ↓b_aA_0, ↓b_aA_1, ↓b_iA_2, ↓b_wiA_2, ↓b_iA_4, ↓b_wiA_4, ↓b_iA_5, ↓b_wiA_5, ↓b_iA_6, ↓b_wiA_6, ↓b_jA_3, ↓b_wjA_3, ↓b_lT, ↓b_lTc, ↓b_aT, ↓b_iT, ↓b_wiT, ↓b_iTc, ↓b_wiTc, ↓b_lW, ↓b_lWc, ↓b_aW, ↓b_iW, ↓b_wiW, ↓b_jWc, ↓b_wjWc, ↓b_rt, ↓b_ru, ↓b_wt, ↓b_wu, ↓b_0l, ↓b_0, ↓b_1, ↓b_2, m_tk, ↓reduceIte, cond_true, cond_false, Option.bind_some, y_Md_make, e_Md_make_0, e_Md_make_100, ↓bI fr, i_01, ec, e3, hl2]
    rfl
  · rw [← em]
    refine mA_cp (n := 0) a2 hp hi (by rw [aU_n (a := S.1) (x := 1) (y := 7) (.inl (by decide))]; exact h60) ?_ ?_ ?_
    · intro x k hx hx1; (try simp only); rw [if_neg (by omega), m_un (by omega)]
    · intro k; (try simp only); rw [if_neg (by omega), aU_n (a := S.1) (x := 1) (y := 7) (.inl (by decide))]
    · intro k; simp only; rw [aU_n (a := S.1) (x := 1) (y := 7) (.inl (by decide))]
      by_cases e : 60 * (3 + i) ≤ k ∧ k < 60 * (3 + i) + S.1 7 p
      · rw [if_pos ⟨trivial, e⟩, if_pos e, m_un (by omega)]
      · rw [if_neg (fun hh => e hh.2), if_neg e, m_un (by omega)]
  · intro x k hx; simp only; rw [if_neg (by omega), m_un (by omega), m_un (by omega), m_un (by omega)]
end MW
