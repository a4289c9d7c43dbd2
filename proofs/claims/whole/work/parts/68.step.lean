/-! CLASS AND MODEL SIDE BY SIDE; a step -/
def iv (f : mF) (g : mG) (S : sS2) : Prop := cA f g S.1 S.2 ∧ mA f g S.1 S.2 ∧ wf S
def opR (xs : List Int32) (D L m : Nat) (las mas : List Value) (f : mF) (g : mG) (t u c s : Nat) : Prop := ∃ f1 g1 t1 u1 c1 s1 k f2 g2 b S', am_Y D L las (mM xs f g t u c s) = some (.inl (some (.int k)), mM xs f1 g1 t1 u1 c1 s1) ∧ am_Y D m mas (mM xs f1 g1 t1 u1 c1 s1) = some (.inl (some (.int b)), mM xs f2 g2 t1 u1 c1 s1) ∧ iv f2 g2 S' ∧ f2 139 21 = k ∧ (k = 0 → g2 156 0 = b.toInt64) ∧ c1 ≤ c + 1 ∧ s1 ≤ s + 6
section OP
variable {xs : List Int32} {f f1 : mF} {g g1 : mG} {t u c s t1 u1 c1 s1 d D L m : Nat} {S S' : sS2} {k : Int32} {las mas : List Value}
theorem opk (hl : am_Y D L las (mM xs f g t u c s) = some (.inl (some (.int k)), mM xs f1 g1 t1 u1 c1 s1)) (hc : cA f1 g1 S'.1 S'.2) (hw : wf S') (hm : ∃ f2 g2 b, am_Y D m mas (mM xs f1 g1 t1 u1 c1 s1) = some (.inl (some (.int b)), mM xs f2 g2 t1 u1 c1 s1) ∧ mA f2 g2 S'.1 S'.2 ∧ f2 139 21 = k ∧ (k = 0 → g1 156 0 = b.toInt64) ∧ fY f1 f2 ∧ gZ g1 g2) (h1 : c1 ≤ c + 1) (h2 : s1 ≤ s + 6) : opR xs D L m las mas f g t u c s := by
  obtain ⟨f2, g2, b, e1, e2, e3, e4, e5, e6⟩ := hm
  exact ⟨f1, g1, t1, u1, c1, s1, k, f2, g2, b, S', hl, e1, ⟨cA_fr (fun x k hx => e5 x k (by omega)) (fun x k hx => e6 x k (by omega)) hc, e2, hw⟩, e3, fun hk => by rw [e6 _ _ (by omega)]; exact e4 hk, h1, h2⟩
theorem mA_21 {v : Int32} (h : mA f g S.1 S.2) : mA (m_u f 139 21 v) g S.1 S.2 := mA_fr (fun x k a b => m_un (by omega)) ⟨0, by decide, Int32.sub_self _⟩ (fun x k a b => rfl) h
theorem mA_156 {v : Int64} (h : mA f g S.1 S.2) : mA f (m_w g 156 0 v) S.1 S.2 := mA_fr (fun x k a b => rfl) ⟨0, by decide, Int32.sub_self _⟩ (fun x k a b => m_wn (by omega)) h
theorem cA_156 {v : Int64} (h : cA f g S.1 S.2) : cA f (m_w g 156 0 v) S.1 S.2 := cA_fr (fun x k a => rfl) (fun x k a => m_wn (by omega)) h
theorem mA_of (h : mA f g S.1 S.2) (hf : ∀ x k, 139 ≤ x → x < 156 → f1 x k = f x k) (hg : ∀ x k, 139 ≤ x → x < 156 → g1 x k = g x k) : mA f1 g1 S.1 S.2 := mA_fr (fun x k a b => hf x k (by omega) (by omega)) ⟨0, by decide, Int32.sub_self _⟩ (fun x k a b => hg x k (by omega) (by omega)) h
theorem c_need {x lo hi : Int32} {M : aM} (hd : 1 ≤ d) (h : lo ≤ x ∧ x ≤ hi) : am_Y d 68 [.int x, .int lo, .int hi] M = some (.inl none, M) := by
  obtain ⟨d, rfl⟩ : ∃ e, d = e + 1 := ⟨d - 1, by omega⟩
  rw [y_AM_needRange, e_AM_needRange_0, if_neg (Int32.not_lt.mpr h.1), if_pos h.2, e_AM_needRange_20]
theorem c_needX {x lo hi : Int32} {M : aM} (hd : 1 ≤ d) (h : ¬ (lo ≤ x ∧ x ≤ hi)) : am_Y d 68 [.int x, .int lo, .int hi] M = some (.inr 1, am_tk M 1 6) := by
  obtain ⟨d, rfl⟩ : ∃ e, d = e + 1 := ⟨d - 1, by omega⟩
  rw [y_AM_needRange, e_AM_needRange_0]
  by_cases h1 : x < lo
  · rw [if_pos h1, e_AM_needRange_10]
  · rw [if_neg h1, if_neg (fun h2 => h ⟨Int32.not_lt.mp h1, h2⟩), e_AM_needRange_10]
theorem rgN {x hi : Int32} {n : Nat} (hM : hi.toInt = n) (h : 0 ≤ x ∧ x ≤ hi) : ∃ j : Nat, j ≤ n ∧ x = nI j := nI_of2 hM (Int32.not_lt.mpr h.1) h.2
theorem c_aliveX {x : Int32} (hd : 2 ≤ d) (h : ¬ (0 ≤ x ∧ x ≤ 5)) : am_Y d 80 [.ref 3, .int x] (mM xs f g t u c s) = some (.inr 1, mM xs f g t u (c + 1) (s + 6)) := by
  obtain ⟨d, rfl⟩ : ∃ e, d = e + 1 := ⟨d - 1, by omega⟩
  simp (maxSteps := 4000000) (disch := first | omega | assumption) only [↓b_ix, ↓b_l3, ↓b_a3_0, ↓b_a3_1, ↓b_a3_2, ↓b_l4, ↓b_a4_0, ↓b_a4_1, ↓b_a4_2, ↓b_a4_3, ↓b_l129, ↓b_a129_0, ↓b_l130, ↓b_i130_1, ↓b_wi130_1, ↓b_l133, ↓b_a133_0, ↓b_a133_1, ↓b_i133_2, ↓b_wi133_2, ↓b_j133_3, ↓b_wj133_3, ↓b_i133_4, ↓b_wi133_4, ↓b_l134, ↓b_a134_0, ↓b_a134_1, ↓b_i134_2, ↓b_wi134_2, ↓b_i134_3, ↓b_wi134_3, ↓b_l135, ↓b_i135_1, ↓b_wi135_1, ↓b_l139, ↓b_a139_0, ↓b_a139_1, ↓b_a139_2, ↓b_a139_3, ↓b_a139_4, ↓b_a139_5, ↓b_a139_6, ↓b_a139_7, ↓b_a139_8, ↓b_a139_9, ↓b_a139_10, ↓b_a139_11, ↓b_a139_12, ↓b_a139_13, ↓b_a139_14, ↓b_i139_15, ↓b_wi139_15, ↓b_i139_16, ↓b_wi139_16, ↓b_i139_17, ↓b_wi139_17, ↓b_a139_18, ↓b_i139_19, ↓b_wi139_19, ↓b_i139_20, ↓b_wi139_20, ↓b_i139_21, ↓b_wi139_21, ↓b_l6, ↓b_i6, ↓b_wi6, ↓b_l140, ↓b_i140, ↓b_wi140, ↓b_l141, ↓b_i141, ↓b_wi141, ↓b_l142, ↓b_i142, ↓b_wi142, ↓b_l143, ↓b_i143, ↓b_wi143, ↓b_l144, ↓b_j144, ↓b_wj144, ↓b_l145, ↓b_j145, ↓b_wj145, ↓b_l146, ↓b_i146, ↓b_wi146, ↓b_l147, ↓b_i147, ↓b_wi147, ↓b_l148, ↓b_i148, ↓b_wi148, ↓b_l149, ↓b_i149, ↓b_wi149, ↓b_l150, ↓b_j150, ↓b_wj150, ↓b_l151, ↓b_i151, ↓b_wi151, ↓b_l152, ↓b_j152, ↓b_wj152, ↓b_l153, ↓b_i153, ↓b_wi153, ↓b_l154, ↓b_i154, ↓b_wi154, ↓b_l155, ↓b_j155, ↓b_wj155, ↓b_l156, ↓b_j156, ↓b_wj156, ↓b_l138, ↓b_j138, ↓b_wj138, ↓b_a5, ↓b_a13, ↓b_a44, ↓b_lA, ↓b_aA_0, ↓b_aA_1, ↓b_iA_2, ↓b_wiA_2, ↓b_iA_4, ↓b_wiA_4, ↓b_iA_5, ↓b_wiA_5, ↓b_iA_6, ↓b_wiA_6, ↓b_jA_3, ↓b_wjA_3, ↓b_lT, ↓b_lTc, ↓b_aT, ↓b_iT, ↓b_wiT, ↓b_iTc, ↓b_wiTc, ↓b_lW, ↓b_lWc, ↓b_aW, ↓b_iW, ↓b_wiW, ↓b_jWc, ↓b_wjWc, ↓b_rt, ↓b_ru, ↓b_wt, ↓b_wu, ↓b_0l, ↓b_0, ↓b_1, ↓b_2, m_tk, ↓reduceIte, cond_true, cond_false, Option.bind_some, y_AM_needAlive, e_AM_needAlive_0, e_AM_needAlive_32, ↓xV (c_needX (show 1 ≤ d by omega) h)]
theorem c_alive0 {i : Nat} (hd : 2 ≤ d) (hi : i < 6) (hr : 0 ≤ nI i ∧ nI i ≤ 5) (hc : cA f g S.1 S.2) (hb : bd S.1) (hn : ¬ S.1 1 i = 1) : am_Y d 80 [.ref 3, .int (nI i)] (mM xs f g t u c s) = some (.inr 0, mM xs f g t u (c + 1) (s + 6)) := by
  obtain ⟨d, rfl⟩ : ∃ e, d = e + 1 := ⟨d - 1, by omega⟩
  have hs : f (14 + 5 * i) 2 = nI (S.1 1 i) := hc.2.1 i hi
  have h2 := (hb.1 i hi).1
  have ne : ¬ nI (S.1 1 i) = 1 := by rw [l_1, nI_eq (by omega) (by omega)]; exact hn
  simp (maxSteps := 4000000) (disch := first | omega | assumption) only [↓b_ix, ↓b_l3, ↓b_a3_0, ↓b_a3_1, ↓b_a3_2, ↓b_l4, ↓b_a4_0, ↓b_a4_1, ↓b_a4_2, ↓b_a4_3, ↓b_l129, ↓b_a129_0, ↓b_l130, ↓b_i130_1, ↓b_wi130_1, ↓b_l133, ↓b_a133_0, ↓b_a133_1, ↓b_i133_2, ↓b_wi133_2, ↓b_j133_3, ↓b_wj133_3, ↓b_i133_4, ↓b_wi133_4, ↓b_l134, ↓b_a134_0, ↓b_a134_1, ↓b_i134_2, ↓b_wi134_2, ↓b_i134_3, ↓b_wi134_3, ↓b_l135, ↓b_i135_1, ↓b_wi135_1, ↓b_l139, ↓b_a139_0, ↓b_a139_1, ↓b_a139_2, ↓b_a139_3, ↓b_a139_4, ↓b_a139_5, ↓b_a139_6, ↓b_a139_7, ↓b_a139_8, ↓b_a139_9, ↓b_a139_10, ↓b_a139_11, ↓b_a139_12, ↓b_a139_13, ↓b_a139_14, ↓b_i139_15, ↓b_wi139_15, ↓b_i139_16, ↓b_wi139_16, ↓b_i139_17, ↓b_wi139_17, ↓b_a139_18, ↓b_i139_19, ↓b_wi139_19, ↓b_i139_20, ↓b_wi139_20, ↓b_i139_21, ↓b_wi139_21, ↓b_l6, ↓b_i6, ↓b_wi6, ↓b_l140, ↓b_i140, ↓b_wi140, ↓b_l141, ↓b_i141, ↓b_wi141, ↓b_l142, ↓b_i142, ↓b_wi142, ↓b_l143, ↓b_i143, ↓b_wi143, ↓b_l144, ↓b_j144, ↓b_wj144, ↓b_l145, ↓b_j145, ↓b_wj145, ↓b_l146, ↓b_i146, ↓b_wi146, ↓b_l147, ↓b_i147, ↓b_wi147, ↓b_l148, ↓b_i148, ↓b_wi148, ↓b_l149, ↓b_i149, ↓b_wi149, ↓b_l150, ↓b_j150, ↓b_wj150, ↓b_l151, ↓b_i151, ↓b_wi151, ↓b_l152, ↓b_j152, ↓b_wj152, ↓b_l153, ↓b_i153, ↓b_wi153, ↓b_l154, ↓b_i154, ↓b_wi154, ↓b_l155, ↓b_j155, ↓b_wj155, ↓b_l156, ↓b_j156, ↓b_wj156, ↓b_l138, ↓b_j138, ↓b_wj138, ↓b_a5, ↓b_a13, ↓b_a44, ↓b_lA, ↓b_aA_0, ↓b_aA_1, ↓b_iA_2, ↓b_wiA_2, ↓b_iA_4, ↓b_wiA_4, ↓b_iA_5, ↓b_wiA_5, ↓b_iA_6, ↓b_wiA_6, ↓b_jA_3, ↓b_wjA_3, ↓b_lT, ↓b_lTc, ↓b_aT, ↓b_iT, ↓b_wiT, ↓b_iTc, ↓b_wiTc, ↓b_lW, ↓b_lWc, ↓b_aW, ↓b_iW, ↓b_wiW, ↓b_jWc, ↓b_wjWc, ↓b_rt, ↓b_ru, ↓b_wt, ↓b_wu, ↓b_0l, ↓b_0, ↓b_1, ↓b_2, m_tk, ↓reduceIte, cond_true, cond_false, Option.bind_some, y_AM_needAlive, e_AM_needAlive_0, e_AM_needAlive_32, ↓bV (c_need (show 1 ≤ d by omega) hr), hs, ne, i_11, i_01, i_1_0, i_0_1, not_true, not_false_eq_true, if_true, if_false, Bool.true_eq_false, Bool.false_eq_true, decide_true, decide_false]
theorem c_alive1 {i : Nat} (hd : 2 ≤ d) (hi : i < 6) (hr : 0 ≤ nI i ∧ nI i ≤ 5) (hc : cA f g S.1 S.2) (hn : S.1 1 i = 1) : am_Y d 80 [.ref 3, .int (nI i)] (mM xs f g t u c s) = some (.inl none, mM xs f g t u c s) := by
  obtain ⟨d, rfl⟩ : ∃ e, d = e + 1 := ⟨d - 1, by omega⟩
  have hs : f (14 + 5 * i) 2 = nI (S.1 1 i) := hc.2.1 i hi
  simp (maxSteps := 4000000) (disch := first | omega | assumption) only [↓b_ix, ↓b_l3, ↓b_a3_0, ↓b_a3_1, ↓b_a3_2, ↓b_l4, ↓b_a4_0, ↓b_a4_1, ↓b_a4_2, ↓b_a4_3, ↓b_l129, ↓b_a129_0, ↓b_l130, ↓b_i130_1, ↓b_wi130_1, ↓b_l133, ↓b_a133_0, ↓b_a133_1, ↓b_i133_2, ↓b_wi133_2, ↓b_j133_3, ↓b_wj133_3, ↓b_i133_4, ↓b_wi133_4, ↓b_l134, ↓b_a134_0, ↓b_a134_1, ↓b_i134_2, ↓b_wi134_2, ↓b_i134_3, ↓b_wi134_3, ↓b_l135, ↓b_i135_1, ↓b_wi135_1, ↓b_l139, ↓b_a139_0, ↓b_a139_1, ↓b_a139_2, ↓b_a139_3, ↓b_a139_4, ↓b_a139_5, ↓b_a139_6, ↓b_a139_7, ↓b_a139_8, ↓b_a139_9, ↓b_a139_10, ↓b_a139_11, ↓b_a139_12, ↓b_a139_13, ↓b_a139_14, ↓b_i139_15, ↓b_wi139_15, ↓b_i139_16, ↓b_wi139_16, ↓b_i139_17, ↓b_wi139_17, ↓b_a139_18, ↓b_i139_19, ↓b_wi139_19, ↓b_i139_20, ↓b_wi139_20, ↓b_i139_21, ↓b_wi139_21, ↓b_l6, ↓b_i6, ↓b_wi6, ↓b_l140, ↓b_i140, ↓b_wi140, ↓b_l141, ↓b_i141, ↓b_wi141, ↓b_l142, ↓b_i142, ↓b_wi142, ↓b_l143, ↓b_i143, ↓b_wi143, ↓b_l144, ↓b_j144, ↓b_wj144, ↓b_l145, ↓b_j145, ↓b_wj145, ↓b_l146, ↓b_i146, ↓b_wi146, ↓b_l147, ↓b_i147, ↓b_wi147, ↓b_l148, ↓b_i148, ↓b_wi148, ↓b_l149, ↓b_i149, ↓b_wi149, ↓b_l150, ↓b_j150, ↓b_wj150, ↓b_l151, ↓b_i151, ↓b_wi151, ↓b_l152, ↓b_j152, ↓b_wj152, ↓b_l153, ↓b_i153, ↓b_wi153, ↓b_l154, ↓b_i154, ↓b_wi154, ↓b_l155, ↓b_j155, ↓b_wj155, ↓b_l156, ↓b_j156, ↓b_wj156, ↓b_l138, ↓b_j138, ↓b_wj138, ↓b_a5, ↓b_a13, ↓b_a44, ↓b_lA, ↓b_aA_0, ↓b_aA_1, ↓b_iA_2, ↓b_wiA_2, ↓b_iA_4, ↓b_wiA_4, ↓b_iA_5, ↓b_wiA_5, ↓b_iA_6, ↓b_wiA_6, ↓b_jA_3, ↓b_wjA_3, ↓b_lT, ↓b_lTc, ↓b_aT, ↓b_iT, ↓b_wiT, ↓b_iTc, ↓b_wiTc, ↓b_lW, ↓b_lWc, ↓b_aW, ↓b_iW, ↓b_wiW, ↓b_jWc, ↓b_wjWc, ↓b_rt, ↓b_ru, ↓b_wt, ↓b_wu, ↓b_0l, ↓b_0, ↓b_1, ↓b_2, m_tk, ↓reduceIte, cond_true, cond_false, Option.bind_some, y_AM_needAlive, e_AM_needAlive_0, e_AM_needAlive_32, ↓bV (c_need (show 1 ≤ d by omega) hr), hs, hn, show nI 1 = 1 from rfl, i_11, i_01, i_1_0, i_0_1, not_true, not_false_eq_true, if_true, if_false, Bool.true_eq_false, Bool.false_eq_true, decide_true, decide_false]
theorem rdr_c {w w' : Nat → Int32} {n : Nat} : ∀ m A i, (∀ k, i ≤ k → k < i + m → w k = w' k) → rdr w n m A i = rdr w' n m A i
  | 0, A, i, _ => rfl
  | m + 1, A, i, h => by
    unfold rdr
    rw [h i (Nat.le_refl i) (by omega)]
    cases stp A (w' i) with
    | none => rfl
    | some A' => exact rdr_c m A' (i + 1) fun k a b => h k (by omega) (by omega)
theorem pAll_c {w w' : Nat → Int32} {n : Nat} (hn : n ≤ 60) (h : ∀ k, k < n → w k = w' k) : pAll w n 60 0 = pAll w' n 60 0 := by
  rw [pAll_eq hn 0, pAll_eq hn 0]; exact rdr_c n _ 0 fun k _ b => h k (by omega)
theorem m_in5 {x : Int32} {M : aM} (hd : 1 ≤ d) (y z : Int32) (h : y ≤ x ∧ x ≤ z) : am_Y d 90 [.int x, .int y, .int z] M = some (.inl (some (.int 1)), M) := by
  rw [c_in hd, decide_eq_true h]; rfl
theorem m_in5X {x : Int32} {M : aM} (hd : 1 ≤ d) (y z : Int32) (h : ¬ (y ≤ x ∧ x ≤ z)) : am_Y d 90 [.int x, .int y, .int z] M = some (.inl (some (.int 0)), M) := by
  rw [c_in hd, decide_eq_false h]; rfl
theorem m_stepA {i n : Nat} {w : Nat → Int32} (hd : 9 ≤ d) (h6 : i < 6) (hr : 0 ≤ nI i ∧ nI i ≤ 5) (hm : mA f g S.1 S.2) (hwf : wf S) (hal : S.1 1 i = 1) (hta : tA S i n w) (hp : pz w n 60 0) : ∃ f' g' R, am_Y d 120 [.ref 139, .int (nI i)] (mM xs f g t u c s) = some (.inl (some (.int R)), mM xs f' g' t u c s) ∧ fY f f' ∧ gZ g g' ∧ (match fi w n i (S.2 0 i) (S.2 (1 + i)) (S.1 5 i) 0 with
    | none => mA f' g' S.1 S.2 ∧ f' 139 21 = 3
    | some r => mA f' g' (pPf i (pP w i 60 (r.2.2.1 + 1) (pTk S i r.1) r.2.2.2 (S.2 0 i))).1 (pPf i (pP w i 60 (r.2.2.1 + 1) (pTk S i r.1) r.2.2.2 (S.2 0 i))).2 ∧ f' 139 21 = nI (cdF (pP w i 60 (r.2.2.1 + 1) (pTk S i r.1) r.2.2.2 (S.2 0 i)).1) ∧ (cdF (pP w i 60 (r.2.2.1 + 1) (pTk S i r.1) r.2.2.2 (S.2 0 i)).1 = 0 → R = nI (r.2.1 + 100 * r.1)) ∧ wf (pPf i (pP w i 60 (r.2.2.1 + 1) (pTk S i r.1) r.2.2.2 (S.2 0 i)))) := by
  obtain ⟨d, rfl⟩ : ∃ e, d = e + 1 := ⟨d - 1, by omega⟩
  have h1 : 1 ≤ d := by omega
  have hb := hwf.1
  have hN := (hb.1 i h6).2.2.2
  have hst := hwf.2.2.1 i h6 hal
  have hml := hwf.2.2.2.2.2.1 i h6
  have hn := hta.2.1
  have hm0 := mA_21 (v := 0) hm
  have hx := tX_A hm0 hta h6 (rfl : 60 * (3 + i) = 60 * (3 + i))
  have hs143 : ∀ v, m_u f 139 21 v 143 i = 1 := fun v => by rw [m_un (by omega)]; have := hm.2.1 i h6; rw [hal] at this; exact this
  have g1 := m_good (xs := xs) (t := t) (u := u) (c := c) (s := s) (f := f) (g := g) (v := 2) (b := true) h1
  have g2 := m_good (xs := xs) (t := t) (u := u) (c := c) (s := s) (f := m_u f 139 21 0) (g := g) (v := 1) (b := true) h1
  have eB : 60 * (3 + nI i) = nI (60 * (3 + i)) := by rw [l_60, l_3, nI_add, nI_mul]
  have start : am_Y (d + 1) 120 [.ref 139, .int (nI i)] (mM xs f g t u c s) = am_X (am_Y d) k_Md_step 50 [(0, .ref 139), (1, .int (nI i)), (2, .int (nI (60 * (3 + i)))), (3, .int (nI 0))] [] (mM xs (m_u f 139 21 0) g t u c s) := by
    simp only [m_bt, if_true] at g1 g2
    simp (maxSteps := 4000000) (disch := first | omega | assumption) only [↓b_ix, ↓b_l3, ↓b_a3_0, ↓b_a3_1, ↓b_a3_2, ↓b_l4, ↓b_a4_0, ↓b_a4_1, ↓b_a4_2, ↓b_a4_3, ↓b_l129, ↓b_a129_0, ↓b_l130, ↓b_i130_1, ↓b_wi130_1, ↓b_l133, ↓b_a133_0, ↓b_a133_1, ↓b_i133_2, ↓b_wi133_2, ↓b_j133_3, ↓b_wj133_3, ↓b_i133_4, ↓b_wi133_4, ↓b_l134, ↓b_a134_0, ↓b_a134_1, ↓b_i134_2, ↓b_wi134_2, ↓b_i134_3, ↓b_wi134_3, ↓b_l135, ↓b_i135_1, ↓b_wi135_1, ↓b_l139, ↓b_a139_0, ↓b_a139_1, ↓b_a139_2, ↓b_a139_3, ↓b_a139_4, ↓b_a139_5, ↓b_a139_6, ↓b_a139_7, ↓b_a139_8, ↓b_a139_9, ↓b_a139_10, ↓b_a139_11, ↓b_a139_12, ↓b_a139_13, ↓b_a139_14, ↓b_i139_15, ↓b_wi139_15, ↓b_i139_16, ↓b_wi139_16, ↓b_i139_17, ↓b_wi139_17, ↓b_a139_18, ↓b_i139_19, ↓b_wi139_19, ↓b_i139_20, ↓b_wi139_20, ↓b_i139_21, ↓b_wi139_21, ↓b_l6, ↓b_i6, ↓b_wi6, ↓b_l140, ↓b_i140, ↓b_wi140, ↓b_l141, ↓b_i141, ↓b_wi141, ↓b_l142, ↓b_i142, ↓b_wi142, ↓b_l143, ↓b_i143, ↓b_wi143, ↓b_l144, ↓b_j144, ↓b_wj144, ↓b_l145, ↓b_j145, ↓b_wj145, ↓b_l146, ↓b_i146, ↓b_wi146, ↓b_l147, ↓b_i147, ↓b_wi147, ↓b_l148, ↓b_i148, ↓b_wi148, ↓b_l149, ↓b_i149, ↓b_wi149, ↓b_l150, ↓b_j150, ↓b_wj150, ↓b_l151, ↓b_i151, ↓b_wi151, ↓b_l152, ↓b_j152, ↓b_wj152, ↓b_l153, ↓b_i153, ↓b_wi153, ↓b_l154, ↓b_i154, ↓b_wi154, ↓b_l155, ↓b_j155, ↓b_wj155, ↓b_l156, ↓b_j156, ↓b_wj156, ↓b_l138, ↓b_j138, ↓b_wj138, ↓b_a5, ↓b_a13, ↓b_a44, ↓b_lA, ↓b_aA_0, ↓b_aA_1, ↓b_iA_2, ↓b_wiA_2, ↓b_iA_4, ↓b_wiA_4, ↓b_iA_5, ↓b_wiA_5, ↓b_iA_6, ↓b_wiA_6, ↓b_jA_3, ↓b_wjA_3, ↓b_lT, ↓b_lTc, ↓b_aT, ↓b_iT, ↓b_wiT, ↓b_iTc, ↓b_wiTc, ↓b_lW, ↓b_lWc, ↓b_aW, ↓b_iW, ↓b_wiW, ↓b_jWc, ↓b_wjWc, ↓b_rt, ↓b_ru, ↓b_wt, ↓b_wu, ↓b_0l, ↓b_0, ↓b_1, ↓b_2, m_tk, ↓reduceIte, cond_true, cond_false, Option.bind_some, y_Md_step, e_Md_step_0, e_Md_step_16, e_Md_step_31, e_Md_step_32, e_Md_step_41, ↓bI (m_in5 h1 0 5 hr), ↓bI g1, i_1_0, hs143, ↓bI g2, m_u2, eB, i_11, i_01, i_1_0, i_0_1, not_true, not_false_eq_true, if_true, if_false, Bool.true_eq_false, Bool.false_eq_true, decide_true, decide_false]
    rfl
  have h141 : m_u f 139 21 0 141 (3 + i) = nI n := by rw [← hta.1]; exact hm0.2.2.2.2.2.2.2.2.2.2.1 (3 + i) (by omega)
  have h146 : m_u f 139 21 0 146 i = nI (S.1 5 i) := hm0.2.2.2.2.2.1 i h6
  have h144 : g 144 i = mTh (S.2 0 i) := hm.2.2.2.2.2.2.2.1 i h6 hal
  have h145 : ∀ k, k < S.1 5 i → g 145 (6 * i + k) = mTh (S.2 (1 + i) k) := fun k hk => hm.2.2.2.2.2.2.2.2.1 i h6 k (by omega) hk
  obtain ⟨r1, r2⟩ := m_fiL (xs := xs) (t := t) (u := u) (c := c) (s := s) (d := d) (self := i) (w := w) (show 7 ≤ d by omega) h6 rfl hn hN hst hml hp (S.1 5 i) 0 (f := m_u f 139 21 0) (g := g) (by omega) hx h141 h146 h144 h145
  cases hfi : fi w n i (S.2 0 i) (S.2 (1 + i)) (S.1 5 i) 0 with
  | none =>
    obtain ⟨f1, g1', y1, y2, y3⟩ := r1 hfi
    exact ⟨_, _, _, start.trans y1, fY_u (fY_t (fY_u (fun _ _ _ => rfl) (by omega)) (fY_Z (fZ_Q y2))) (by omega), gZ_Q y3, mA_21 (mA_Q hm0 y2 y3), m_uu _⟩
  | some r =>
    obtain ⟨hk, f1, g1', y1, y2, y3, y4, y5⟩ := r2 r hfi
    have hm1 := mA_Q hm0 y2 y3
    have tkk := m_take (xs := xs) (t := t) (u := u) (c := c) (s := s) h1 h6 hm1 hb hk
    have hm2 : mA (m_u f1 146 i (nI (S.1 5 i - 1))) (gTm g1' 145 (6 * i) r.1 (S.1 5 i)) (pTk S i r.1).1 (pTk S i r.1).2 := mA_mtake hm1 h6 hN
    have hwf2 : wf (pTk S i r.1) := wf_mtake h6 hal hwf
    have hta2 : tA (pTk S i r.1) i n w := tA_e hta (aU_n (a := S.1) (x := 5) (k := i) (v := S.1 5 i - 1) (y := 7) (j := 3 + i) (by omega)) (fun k => aU_n (a := S.1) (x := 5) (k := i) (v := S.1 5 i - 1) (y := 13 + i) (j := k) (by omega))
    -- what was found
    have hfc : ∃ k', k' < S.1 5 i ∧ fc w n i (S.2 0 i) (S.2 (1 + i) k') 60 0 0 = some r.2 := by
      have key : ∀ q k, q + k = S.1 5 i → fi w n i (S.2 0 i) (S.2 (1 + i)) q k = some r → ∃ k', k' < S.1 5 i ∧ fc w n i (S.2 0 i) (S.2 (1 + i) k') 60 0 0 = some r.2 := by
        intro q
        induction q with
        | zero => intro k _ h; exact (nomatch h)
        | succ q ih =>
          intro k hq h
          unfold fi at h
          cases hc : fc w n i (S.2 0 i) (S.2 (1 + i) k) 60 0 0 with
          | none => rw [hc] at h; exact ih (k + 1) (by omega) h
          | some v => rw [hc] at h; have := Option.some.inj h; subst this; exact ⟨k, by omega, hc⟩
      exact key _ 0 (by omega) hfi
    obtain ⟨k', hk', hfc⟩ := hfc
    obtain ⟨q1, q2, ⟨j, q3⟩, q4, q5⟩ := fc_ok h6 hn hst (hml k' hk') 60 0 0 r.2 hp hfc
    have hx2 := tX_A hm2 hta2 h6 (rfl : 60 * (3 + i) = 60 * (3 + i))
    have hat : m_u f1 146 i (nI (S.1 5 i - 1)) 139 19 = nI (60 * (3 + i) + r.2.2.1) := by rw [m_un (by omega)]; exact y4
    have w58 : m_u f1 146 i (nI (S.1 5 i - 1)) 140 (60 * (3 + i) + r.2.2.1) = 58 := by rw [hx2.2 _ q1]; exact q2
    have hB2 := hx2.1
    have hst2 : gTm g1' 145 (6 * i) r.1 (S.1 5 i) 144 i = mTh (S.2 0 i) := by rw [gTm_n (by omega), y3 _ _ (by omega) (by omega)]; exact h144
    have b1 : nI (60 * (3 + i) + r.2.2.1) + 1 = nI (60 * (3 + i) + (r.2.2.1 + 1)) := by rw [nI_1, Nat.add_assoc]
    -- performing
    obtain ⟨f2, g2', R, z1, z2, z3, z4, z5, z6, z7⟩ := m_perfL (xs := xs) (t := t) (u := u) (c := c) (s := s) (d := d - 1) (ans := r.2.1 + 100 * r.1) (show 7 ≤ d - 1 by omega) h6 (rfl : 60 * (3 + i) = 60 * (3 + i)) 60 (r.2.2.1 + 1) (f := m_u (m_u (m_u f1 146 i (nI (S.1 5 i - 1))) 139 20 0) 139 19 (nI (60 * (3 + i) + (r.2.2.1 + 1)))) (g := m_w (gTm g1' 145 (6 * i) r.1 (S.1 5 i)) 155 4 (mTh (S.2 0 i))) (va := r.2.2.2) (S := pTk S i r.1) (ns := S.2 0 i) (j := j)
      (mA_fr (fun x k a b => by rw [m_un (by omega), m_un (by omega)]) ⟨0, by decide, Int32.sub_self _⟩ (fun x k a b => m_wn (by omega)) hm2) hwf2
      ((aU_n (a := S.1) (x := 5) (k := i) (v := S.1 5 i - 1) (y := 1) (j := i) (.inl (by decide))).trans hal)
      (by rw [m_un (by omega), m_uu]) (by rw [m_un (by omega), m_un (by omega), m_un (by omega), y2 _ _ (by omega) (by omega), m_uu]) (m_ww _) hst
      (fun v hv => by rw [m_wn (by omega), gTm_n (by omega)]; exact y5 v hv) q4 hta2 (m_uu _) q3
    refine ⟨f2, g2', R, ?_, ?_, ?_, z2, z3, z4, z7⟩
    · obtain ⟨e, he⟩ : ∃ e, d = e + 1 := ⟨d - 1, by omega⟩
      have hcall : am_Y d 132 [.ref 139, .int (nI i), .int (nI (r.2.1 + 100 * r.1))] (mM xs (m_u f1 146 i (nI (S.1 5 i - 1))) (gTm g1' 145 (6 * i) r.1 (S.1 5 i)) t u c s) = some (.inl (some (.int R)), mM xs f2 g2' t u c s) := by
        rw [he] at z1 ⊢
        rw [show e + 1 - 1 = e by omega] at z1
        rw [← z1]
        have hat2 : m_u (m_u f1 146 i (nI (S.1 5 i - 1))) 139 20 0 139 19 = nI (60 * (3 + i) + r.2.2.1) := by rw [m_un (by omega)]; exact hat
        simp (maxSteps := 4000000) (disch := first | omega | assumption) only [↓b_ix, ↓b_l3, ↓b_a3_0, ↓b_a3_1, ↓b_a3_2, ↓b_l4, ↓b_a4_0, ↓b_a4_1, ↓b_a4_2, ↓b_a4_3, ↓b_l129, ↓b_a129_0, ↓b_l130, ↓b_i130_1, ↓b_wi130_1, ↓b_l133, ↓b_a133_0, ↓b_a133_1, ↓b_i133_2, ↓b_wi133_2, ↓b_j133_3, ↓b_wj133_3, ↓b_i133_4, ↓b_wi133_4, ↓b_l134, ↓b_a134_0, ↓b_a134_1, ↓b_i134_2, ↓b_wi134_2, ↓b_i134_3, ↓b_wi134_3, ↓b_l135, ↓b_i135_1, ↓b_wi135_1, ↓b_l139, ↓b_a139_0, ↓b_a139_1, ↓b_a139_2, ↓b_a139_3, ↓b_a139_4, ↓b_a139_5, ↓b_a139_6, ↓b_a139_7, ↓b_a139_8, ↓b_a139_9, ↓b_a139_10, ↓b_a139_11, ↓b_a139_12, ↓b_a139_13, ↓b_a139_14, ↓b_i139_15, ↓b_wi139_15, ↓b_i139_16, ↓b_wi139_16, ↓b_i139_17, ↓b_wi139_17, ↓b_a139_18, ↓b_i139_19, ↓b_wi139_19, ↓b_i139_20, ↓b_wi139_20, ↓b_i139_21, ↓b_wi139_21, ↓b_l6, ↓b_i6, ↓b_wi6, ↓b_l140, ↓b_i140, ↓b_wi140, ↓b_l141, ↓b_i141, ↓b_wi141, ↓b_l142, ↓b_i142, ↓b_wi142, ↓b_l143, ↓b_i143, ↓b_wi143, ↓b_l144, ↓b_j144, ↓b_wj144, ↓b_l145, ↓b_j145, ↓b_wj145, ↓b_l146, ↓b_i146, ↓b_wi146, ↓b_l147, ↓b_i147, ↓b_wi147, ↓b_l148, ↓b_i148, ↓b_wi148, ↓b_l149, ↓b_i149, ↓b_wi149, ↓b_l150, ↓b_j150, ↓b_wj150, ↓b_l151, ↓b_i151, ↓b_wi151, ↓b_l152, ↓b_j152, ↓b_wj152, ↓b_l153, ↓b_i153, ↓b_wi153, ↓b_l154, ↓b_i154, ↓b_wi154, ↓b_l155, ↓b_j155, ↓b_wj155, ↓b_l156, ↓b_j156, ↓b_wj156, ↓b_l138, ↓b_j138, ↓b_wj138, ↓b_a5, ↓b_a13, ↓b_a44, ↓b_lA, ↓b_aA_0, ↓b_aA_1, ↓b_iA_2, ↓b_wiA_2, ↓b_iA_4, ↓b_wiA_4, ↓b_iA_5, ↓b_wiA_5, ↓b_iA_6, ↓b_wiA_6, ↓b_jA_3, ↓b_wjA_3, ↓b_lT, ↓b_lTc, ↓b_aT, ↓b_iT, ↓b_wiT, ↓b_iTc, ↓b_wiTc, ↓b_lW, ↓b_lWc, ↓b_aW, ↓b_iW, ↓b_wiW, ↓b_jWc, ↓b_wjWc, ↓b_rt, ↓b_ru, ↓b_wt, ↓b_wu, ↓b_0l, ↓b_0, ↓b_1, ↓b_2, m_tk, ↓reduceIte, cond_true, cond_false, Option.bind_some, y_Md_perform, e_Md_perform_0, e_Md_perform_60, e_Md_perform_84, e_Md_perform_85, e_Md_perform_103, e_Md_perform_104, e_Md_perform_108, e_Md_perform_130, ↓show am_ix 4 = some 4 from rfl, hst2, hat2, b1]
      have ea : nI r.2.1 + 100 * nI r.1 = nI (r.2.1 + 100 * r.1) := by rw [l_100, nI_mul, nI_add]
      rw [start, y1, bV tkk, e_Md_step_108]
      simp (maxSteps := 4000000) (disch := first | omega | assumption) only [↓b_ix, ↓b_l3, ↓b_a3_0, ↓b_a3_1, ↓b_a3_2, ↓b_l4, ↓b_a4_0, ↓b_a4_1, ↓b_a4_2, ↓b_a4_3, ↓b_l129, ↓b_a129_0, ↓b_l130, ↓b_i130_1, ↓b_wi130_1, ↓b_l133, ↓b_a133_0, ↓b_a133_1, ↓b_i133_2, ↓b_wi133_2, ↓b_j133_3, ↓b_wj133_3, ↓b_i133_4, ↓b_wi133_4, ↓b_l134, ↓b_a134_0, ↓b_a134_1, ↓b_i134_2, ↓b_wi134_2, ↓b_i134_3, ↓b_wi134_3, ↓b_l135, ↓b_i135_1, ↓b_wi135_1, ↓b_l139, ↓b_a139_0, ↓b_a139_1, ↓b_a139_2, ↓b_a139_3, ↓b_a139_4, ↓b_a139_5, ↓b_a139_6, ↓b_a139_7, ↓b_a139_8, ↓b_a139_9, ↓b_a139_10, ↓b_a139_11, ↓b_a139_12, ↓b_a139_13, ↓b_a139_14, ↓b_i139_15, ↓b_wi139_15, ↓b_i139_16, ↓b_wi139_16, ↓b_i139_17, ↓b_wi139_17, ↓b_a139_18, ↓b_i139_19, ↓b_wi139_19, ↓b_i139_20, ↓b_wi139_20, ↓b_i139_21, ↓b_wi139_21, ↓b_l6, ↓b_i6, ↓b_wi6, ↓b_l140, ↓b_i140, ↓b_wi140, ↓b_l141, ↓b_i141, ↓b_wi141, ↓b_l142, ↓b_i142, ↓b_wi142, ↓b_l143, ↓b_i143, ↓b_wi143, ↓b_l144, ↓b_j144, ↓b_wj144, ↓b_l145, ↓b_j145, ↓b_wj145, ↓b_l146, ↓b_i146, ↓b_wi146, ↓b_l147, ↓b_i147, ↓b_wi147, ↓b_l148, ↓b_i148, ↓b_wi148, ↓b_l149, ↓b_i149, ↓b_wi149, ↓b_l150, ↓b_j150, ↓b_wj150, ↓b_l151, ↓b_i151, ↓b_wi151, ↓b_l152, ↓b_j152, ↓b_wj152, ↓b_l153, ↓b_i153, ↓b_wi153, ↓b_l154, ↓b_i154, ↓b_wi154, ↓b_l155, ↓b_j155, ↓b_wj155, ↓b_l156, ↓b_j156, ↓b_wj156, ↓b_l138, ↓b_j138, ↓b_wj138, ↓b_a5, ↓b_a13, ↓b_a44, ↓b_lA, ↓b_aA_0, ↓b_aA_1, ↓b_iA_2, ↓b_wiA_2, ↓b_iA_4, ↓b_wiA_4, ↓b_iA_5, ↓b_wiA_5, ↓b_iA_6, ↓b_wiA_6, ↓b_jA_3, ↓b_wjA_3, ↓b_lT, ↓b_lTc, ↓b_aT, ↓b_iT, ↓b_wiT, ↓b_iTc, ↓b_wiTc, ↓b_lW, ↓b_lWc, ↓b_aW, ↓b_iW, ↓b_wiW, ↓b_jWc, ↓b_wjWc, ↓b_rt, ↓b_ru, ↓b_wt, ↓b_wu, ↓b_0l, ↓b_0, ↓b_1, ↓b_2, m_tk, ↓reduceIte, cond_true, cond_false, Option.bind_some, e_Md_step_135, hat, w58, ea, ↓bI hcall, i_11, i_01, i_1_0, i_0_1, not_true, not_false_eq_true, if_true, if_false, Bool.true_eq_false, Bool.false_eq_true, decide_true, decide_false]
    · refine fY_t (fY_t (fY_u (fun _ _ _ => rfl) (by omega)) (fY_Z (fZ_Q y2))) (fY_t ?_ z5)
      intro x k hx
      rw [m_un (by omega), m_un (by omega), m_un (by omega)]
    · refine gZ_t (gZ_Q y3) (gZ_t ?_ z6)
      intro x k hx
      rw [m_wn (by omega), gTm_n (by omega)]
theorem m_goodX {v : Int32} (hd : 1 ≤ d) : am_Y d 92 [.ref 139, .int 0, .int v] (mM xs f g t u c s) = some (.inl (some (.int 0)), mM xs (m_u f 139 21 v) g t u c s) := m_good (b := false) hd
theorem m_goodT {v : Int32} (hd : 1 ≤ d) : am_Y d 92 [.ref 139, .int 1, .int v] (mM xs f g t u c s) = some (.inl (some (.int 1)), mM xs (m_u f 139 21 0) g t u c s) := m_good (b := true) hd
/-- what a refused call of the model leaves -/
theorem bad_fin {b v : Int32} (hm : mA f g S.1 S.2) (hk : ¬ v = 0) (e : am_Y D m mas (mM xs f g t1 u1 c1 s1) = some (.inl (some (.int b)), mM xs (m_u f 139 21 v) g t1 u1 c1 s1)) : ∃ f2 g2 b, am_Y D m mas (mM xs f g t1 u1 c1 s1) = some (.inl (some (.int b)), mM xs f2 g2 t1 u1 c1 s1) ∧ mA f2 g2 S.1 S.2 ∧ f2 139 21 = v ∧ (v = 0 → g 156 0 = b.toInt64) ∧ fY f f2 ∧ gZ g g2 :=
  ⟨_, _, _, e, mA_21 hm, m_uu _, fun h => absurd h hk, fY_u (fun _ _ _ => rfl) (by omega), gZ_r g⟩
theorem pP_c {n self : Nat} {w : Nat → Int32} (h6 : self < 6) : ∀ m i {S : sS2} {va : Nat → sTm} {ns : sTm} {j : Nat}, bd S.1 → S.1 1 self = 1 → (∀ k, k < 6 → vV (va k)) → tv ns.1 ns.2 → az w n m i j → (pP w self m i S va ns).1 ≤ 3
  | 0, _, _, _, _, _, _, _, _, _, h => h.elim
  | m + 1, i, S, va, ns, j, hb, hal, hV, hn, h => by
    rcases h with ⟨g1, g2, rfl⟩ | ⟨g0, i1, ga, gz⟩
    · rw [pP, if_pos g2]; exact Nat.zero_le _
    · have g9 : ¬ w i = 59 := fun e => g0 ⟨ga.1, e⟩
      obtain ⟨ok, okE⟩ := pA_ok (ns := ns) h6 hb hal hV hn ga
      rw [pP, if_neg g9]
      by_cases c0 : (pA w self S va ns i).1 = 0
      · rw [if_pos c0, okE c0]
        exact pP_c h6 m i1 ok.1 ok.2.1 ok.2.2.1 ok.2.2.2.1 gz
      · rw [if_neg c0]
        have := ok.2.2.2.2.2
        show (pA w self S va ns i).1 ≤ 3
        omega
theorem dv100 : ∀ k, k < 6 → ∀ q, q < 60 → nI (k * 100 + q) / 100 = nI k := by decide +kernel
theorem op_step {x : Int32} (hd : 20 ≤ d) (h : iv f g S) : opR xs (d + 1) 149 120 [.ref 3, .int x, .ref 156] [.ref 139, .int x] f g t u c s := by
  obtain ⟨hc, hm, hwf⟩ := h
  have hb := hwf.1
  have h1 : 1 ≤ d := by omega
  have d1 : 1 ≤ d + 1 := by omega
  obtain ⟨e, rfl⟩ : ∃ e, d = e + 1 := ⟨d - 1, by omega⟩
  have e2 : 2 ≤ e := by omega
  by_cases hr : 0 ≤ x ∧ x ≤ 5
  · obtain ⟨i, hi, rfl⟩ := rgN (n := 5) rfl hr
    have h6 : i < 6 := by omega
    have hs143 : f 143 i = nI (S.1 1 i) := hm.2.1 i h6
    by_cases hal : S.1 1 i = 1
    · -- the text
      have hTq := hc.2.2.2.2.2.2.2.2.2.2
      have n60 := hb.2.2.1 (3 + i) (by omega)
      have hX : mX f (15 + 5 * i) (S.1 7 (3 + i)) := by
        refine ⟨mT_a h6, by omega, ?_, n60, fun k hk => ?_⟩
        · have := hTq.1 (3 + i) (by omega); rw [tq_a] at this; exact this
        · have := hTq.2.1 (3 + i) (by omega) k hk; rw [tq_a] at this; exact this
      have hW : ∀ k, k < S.1 7 (3 + i) → f (15 + 5 * i + 1) k = nI (S.1 (13 + i) k) := fun k hk => by
        have := hTq.2.2 (3 + i) (by omega) k hk; rw [tq_a, show 10 + (3 + i) = 13 + i by omega] at this; exact this
      have hta : tA S i (S.1 7 (3 + i)) (f (15 + 5 * i + 1)) := ⟨rfl, n60, hW⟩
      have hp : pz (f (15 + 5 * i + 1)) (S.1 7 (3 + i)) 60 0 := pz_of 60 0 (by omega) (by rw [pAll_c n60 hW]; exact hwf.2.2.2.2.2.2.2.2 i h6 hal)
      have hst := hwf.2.2.1 i h6 hal
      have hml := hwf.2.2.2.2.2.1 i h6
      have hN := (hb.1 i h6).2.2.2
      obtain ⟨F, G, U, r, y1, y2, y3, y4⟩ := c_find (xs := xs) (t := t) (u := u) (c := c) (s := s) (d := e) (ml := S.2 (1 + i)) (show 15 ≤ e by omega) h6 hN hst hml hX (hc.2.2.2.2.2.1 i h6) (hc.2.2.2.2.2.2.2.1 i h6) (fun k hk => hc.2.2.2.2.2.2.2.2.1 i h6 k hk) hp
      have hcF : cA F G S.1 S.2 := cA_fr (fun x k hx => by rw [y2 _ _ (by omega) (by omega), m_un (by omega)]) (fun x k hx => y3 _ _ (by omega)) hc
      have hmF : mA F G S.1 S.2 := mA_of hm (fun x k a b => by rw [y2 _ _ (by omega) (by omega), m_un (by omega)]) (fun x k a b => y3 _ _ (by omega))
      have al := c_alive1 (xs := xs) (f := f) (g := g) (t := t) (u := u) (c := c) (s := s) e2 h6 hr hc hal
      cases hfi : fi (f (15 + 5 * i + 1)) (S.1 7 (3 + i)) i (S.2 0 i) (S.2 (1 + i)) (S.1 5 i) 0 with
      | none =>
        rw [hfi] at y4
        have hr1 : r = -1 := y4
        subst hr1
        have cl : am_Y (e + 1) 79 [.ref 3, .int (nI i)] (mM xs f g t u c s) = some (.inr 2, mM xs F G t U (c + 1) (s + 6)) := by
          simp (maxSteps := 4000000) (disch := first | omega | assumption) only [↓b_ix, ↓b_l3, ↓b_a3_0, ↓b_a3_1, ↓b_a3_2, ↓b_l4, ↓b_a4_0, ↓b_a4_1, ↓b_a4_2, ↓b_a4_3, ↓b_l129, ↓b_a129_0, ↓b_l130, ↓b_i130_1, ↓b_wi130_1, ↓b_l133, ↓b_a133_0, ↓b_a133_1, ↓b_i133_2, ↓b_wi133_2, ↓b_j133_3, ↓b_wj133_3, ↓b_i133_4, ↓b_wi133_4, ↓b_l134, ↓b_a134_0, ↓b_a134_1, ↓b_i134_2, ↓b_wi134_2, ↓b_i134_3, ↓b_wi134_3, ↓b_l135, ↓b_i135_1, ↓b_wi135_1, ↓b_l139, ↓b_a139_0, ↓b_a139_1, ↓b_a139_2, ↓b_a139_3, ↓b_a139_4, ↓b_a139_5, ↓b_a139_6, ↓b_a139_7, ↓b_a139_8, ↓b_a139_9, ↓b_a139_10, ↓b_a139_11, ↓b_a139_12, ↓b_a139_13, ↓b_a139_14, ↓b_i139_15, ↓b_wi139_15, ↓b_i139_16, ↓b_wi139_16, ↓b_i139_17, ↓b_wi139_17, ↓b_a139_18, ↓b_i139_19, ↓b_wi139_19, ↓b_i139_20, ↓b_wi139_20, ↓b_i139_21, ↓b_wi139_21, ↓b_l6, ↓b_i6, ↓b_wi6, ↓b_l140, ↓b_i140, ↓b_wi140, ↓b_l141, ↓b_i141, ↓b_wi141, ↓b_l142, ↓b_i142, ↓b_wi142, ↓b_l143, ↓b_i143, ↓b_wi143, ↓b_l144, ↓b_j144, ↓b_wj144, ↓b_l145, ↓b_j145, ↓b_wj145, ↓b_l146, ↓b_i146, ↓b_wi146, ↓b_l147, ↓b_i147, ↓b_wi147, ↓b_l148, ↓b_i148, ↓b_wi148, ↓b_l149, ↓b_i149, ↓b_wi149, ↓b_l150, ↓b_j150, ↓b_wj150, ↓b_l151, ↓b_i151, ↓b_wi151, ↓b_l152, ↓b_j152, ↓b_wj152, ↓b_l153, ↓b_i153, ↓b_wi153, ↓b_l154, ↓b_i154, ↓b_wi154, ↓b_l155, ↓b_j155, ↓b_wj155, ↓b_l156, ↓b_j156, ↓b_wj156, ↓b_l138, ↓b_j138, ↓b_wj138, ↓b_a5, ↓b_a13, ↓b_a44, ↓b_lA, ↓b_aA_0, ↓b_aA_1, ↓b_iA_2, ↓b_wiA_2, ↓b_iA_4, ↓b_wiA_4, ↓b_iA_5, ↓b_wiA_5, ↓b_iA_6, ↓b_wiA_6, ↓b_jA_3, ↓b_wjA_3, ↓b_lT, ↓b_lTc, ↓b_aT, ↓b_iT, ↓b_wiT, ↓b_iTc, ↓b_wiTc, ↓b_lW, ↓b_lWc, ↓b_aW, ↓b_iW, ↓b_wiW, ↓b_jWc, ↓b_wjWc, ↓b_rt, ↓b_ru, ↓b_wt, ↓b_wu, ↓b_0l, ↓b_0, ↓b_1, ↓b_2, m_tk, ↓reduceIte, cond_true, cond_false, Option.bind_some, y_AM_step, e_AM_step_0, e_AM_step_28, e_AM_step_55, e_AM_step_70, ↓bV al, ↓bI y1, show ¬ (0 : Int32) ≤ -1 by decide, i_11, i_01, i_1_0, i_0_1, not_true, not_false_eq_true, if_true, if_false, Bool.true_eq_false, Bool.false_eq_true, decide_true, decide_false]
        obtain ⟨f2, g2, R, z1, z2, z3, z4⟩ := m_stepA (xs := xs) (t := t) (u := U) (c := c + 1) (s := s + 6) (d := e + 1 + 1) (by omega) h6 hr hmF hwf hal hta hp
        rw [hfi] at z4
        exact opk (lw_step_x2 cl) hcF hwf ⟨f2, g2, R, z1, z4.1, z4.2, fun hh => absurd hh (by decide), z2, z3⟩ (by omega) (by omega)
      | some q =>
        rw [hfi] at y4
        obtain ⟨v1, v2, v3, v4, v5, v6, v7⟩ := y4
        subst v1 v2
        have hTF : mX F (15 + 5 * i) (S.1 7 (3 + i)) := by
          obtain ⟨q1, q2, q3, q4, q5⟩ := hX
          exact ⟨q1, q2, by rw [y2 _ _ (by omega) (by omega), m_un (by omega)]; exact q3, q4, fun k hk => by rw [y2 _ _ (by omega) (by omega), m_un (by omega)]; exact q5 k hk⟩
        have wF : F (15 + 5 * i + 1) = f (15 + 5 * i + 1) := by funext k; rw [y2 _ _ (by omega) (by omega), m_un (by omega)]
        have hfc : ∃ k', k' < S.1 5 i ∧ fc (f (15 + 5 * i + 1)) (S.1 7 (3 + i)) i (S.2 0 i) (S.2 (1 + i) k') 60 0 0 = some q.2 ∧ q.1 < S.1 5 i := by
          have key : ∀ m k, m + k = S.1 5 i → fi (f (15 + 5 * i + 1)) (S.1 7 (3 + i)) i (S.2 0 i) (S.2 (1 + i)) m k = some q → ∃ k', k' < S.1 5 i ∧ fc (f (15 + 5 * i + 1)) (S.1 7 (3 + i)) i (S.2 0 i) (S.2 (1 + i) k') 60 0 0 = some q.2 ∧ q.1 < S.1 5 i := by
            intro m
            induction m with
            | zero => intro k _ h; exact (nomatch h)
            | succ m ih =>
              intro k hq h
              unfold fi at h
              cases hc : fc (f (15 + 5 * i + 1)) (S.1 7 (3 + i)) i (S.2 0 i) (S.2 (1 + i) k) 60 0 0 with
              | none => rw [hc] at h; exact ih (k + 1) (by omega) h
              | some v => rw [hc] at h; have := Option.some.inj h; subst this; exact ⟨k, by omega, hc, by show k < S.1 5 i; omega⟩
          exact key _ 0 (by omega) hfi
        obtain ⟨k', hk', hfc, hq5⟩ := hfc
        obtain ⟨q1, q2, ⟨j, q3⟩, q4, q5⟩ := fc_ok h6 n60 hst (hml k' hk') 60 0 0 q.2 hp hfc
        have s3 : F 133 2 = nI i := by rw [y2 _ _ (by omega) (by omega), m_uu]
        obtain ⟨F', G', w1, w2, w3⟩ := c_perform (xs := xs) (t := t) (c := c) (s := s) (d := e) (va := q.2.2.2) (show 15 ≤ e by omega) h6 hcF hb hal s3 v6 v5 hst (fun k hk => (v7 k hk).1) q4 v4 hTF q1 (by rw [wF]; exact q2) (by rw [wF]; exact q3) hq5
        rw [wF] at w1 w2
        have hmF' : mA F' G' S.1 S.2 := mA_of hmF (fun x k a b => (w3 x k a).1) (fun x k a b => (w3 x k a).2)
        have dv := dv100 q.1 (by omega) q.2.1 v3
        have pos : 0 ≤ nI (q.1 * 100 + q.2.1) := nI_pos' (by omega)
        have wfR : ∀ d', 9 ≤ d' → ∀ (G2 : mG) (c' s' : Nat), mA F' G2 S.1 S.2 → ∃ f2 g2 R, am_Y d' 120 [.ref 139, .int (nI i)] (mM xs F' G2 t (15 + 5 * i) c' s') = some (.inl (some (.int R)), mM xs f2 g2 t (15 + 5 * i) c' s') ∧ fY F' f2 ∧ gZ G2 g2 ∧ mA f2 g2 (pPf i (pP (f (15 + 5 * i + 1)) i 60 (q.2.2.1 + 1) (pTk S i q.1) q.2.2.2 (S.2 0 i))).1 (pPf i (pP (f (15 + 5 * i + 1)) i 60 (q.2.2.1 + 1) (pTk S i q.1) q.2.2.2 (S.2 0 i))).2 ∧ f2 139 21 = nI (cdF (pP (f (15 + 5 * i + 1)) i 60 (q.2.2.1 + 1) (pTk S i q.1) q.2.2.2 (S.2 0 i)).1) ∧ (cdF (pP (f (15 + 5 * i + 1)) i 60 (q.2.2.1 + 1) (pTk S i q.1) q.2.2.2 (S.2 0 i)).1 = 0 → R = nI (q.2.1 + 100 * q.1)) ∧ wf (pPf i (pP (f (15 + 5 * i + 1)) i 60 (q.2.2.1 + 1) (pTk S i q.1) q.2.2.2 (S.2 0 i))) := by
          intro d' hd' G2 c' s' hm2
          obtain ⟨f2, g2, R, z1, z2, z3, z4⟩ := m_stepA (xs := xs) (t := t) (u := 15 + 5 * i) (c := c') (s := s') (d := d') hd' h6 hr hm2 hwf hal hta hp
          rw [hfi] at z4
          exact ⟨f2, g2, R, z1, z2, z3, z4⟩
        have p3 : (pP (f (15 + 5 * i + 1)) i 60 (q.2.2.1 + 1) (pTk S i q.1) q.2.2.2 (S.2 0 i)).1 ≤ 3 := pP_c h6 60 _ (bd_u hb ⟨by omega, by omega, by omega, fun _ => by omega, by omega, by omega, by omega⟩) ((aU_n (a := S.1) (x := 5) (k := i) (v := S.1 5 i - 1) (y := 1) (j := i) (.inl (by decide))).trans hal) q4 hst q3
        generalize pP (f (15 + 5 * i + 1)) i 60 (q.2.2.1 + 1) (pTk S i q.1) q.2.2.2 (S.2 0 i) = P at *
        by_cases c1 : P.1 = 1
        · have cl : am_Y (e + 1) 79 [.ref 3, .int (nI i)] (mM xs f g t u c s) = some (.inr 4, mM xs F' G' t (15 + 5 * i) (c + 1) (s + 6)) := by
            have tr : nI (trC P.1) = 1 := by rw [c1]; rfl
            rw [tr] at w1
            simp (maxSteps := 4000000) (disch := first | omega | assumption) only [↓b_ix, ↓b_l3, ↓b_a3_0, ↓b_a3_1, ↓b_a3_2, ↓b_l4, ↓b_a4_0, ↓b_a4_1, ↓b_a4_2, ↓b_a4_3, ↓b_l129, ↓b_a129_0, ↓b_l130, ↓b_i130_1, ↓b_wi130_1, ↓b_l133, ↓b_a133_0, ↓b_a133_1, ↓b_i133_2, ↓b_wi133_2, ↓b_j133_3, ↓b_wj133_3, ↓b_i133_4, ↓b_wi133_4, ↓b_l134, ↓b_a134_0, ↓b_a134_1, ↓b_i134_2, ↓b_wi134_2, ↓b_i134_3, ↓b_wi134_3, ↓b_l135, ↓b_i135_1, ↓b_wi135_1, ↓b_l139, ↓b_a139_0, ↓b_a139_1, ↓b_a139_2, ↓b_a139_3, ↓b_a139_4, ↓b_a139_5, ↓b_a139_6, ↓b_a139_7, ↓b_a139_8, ↓b_a139_9, ↓b_a139_10, ↓b_a139_11, ↓b_a139_12, ↓b_a139_13, ↓b_a139_14, ↓b_i139_15, ↓b_wi139_15, ↓b_i139_16, ↓b_wi139_16, ↓b_i139_17, ↓b_wi139_17, ↓b_a139_18, ↓b_i139_19, ↓b_wi139_19, ↓b_i139_20, ↓b_wi139_20, ↓b_i139_21, ↓b_wi139_21, ↓b_l6, ↓b_i6, ↓b_wi6, ↓b_l140, ↓b_i140, ↓b_wi140, ↓b_l141, ↓b_i141, ↓b_wi141, ↓b_l142, ↓b_i142, ↓b_wi142, ↓b_l143, ↓b_i143, ↓b_wi143, ↓b_l144, ↓b_j144, ↓b_wj144, ↓b_l145, ↓b_j145, ↓b_wj145, ↓b_l146, ↓b_i146, ↓b_wi146, ↓b_l147, ↓b_i147, ↓b_wi147, ↓b_l148, ↓b_i148, ↓b_wi148, ↓b_l149, ↓b_i149, ↓b_wi149, ↓b_l150, ↓b_j150, ↓b_wj150, ↓b_l151, ↓b_i151, ↓b_wi151, ↓b_l152, ↓b_j152, ↓b_wj152, ↓b_l153, ↓b_i153, ↓b_wi153, ↓b_l154, ↓b_i154, ↓b_wi154, ↓b_l155, ↓b_j155, ↓b_wj155, ↓b_l156, ↓b_j156, ↓b_wj156, ↓b_l138, ↓b_j138, ↓b_wj138, ↓b_a5, ↓b_a13, ↓b_a44, ↓b_lA, ↓b_aA_0, ↓b_aA_1, ↓b_iA_2, ↓b_wiA_2, ↓b_iA_4, ↓b_wiA_4, ↓b_iA_5, ↓b_wiA_5, ↓b_iA_6, ↓b_wiA_6, ↓b_jA_3, ↓b_wjA_3, ↓b_lT, ↓b_lTc, ↓b_aT, ↓b_iT, ↓b_wiT, ↓b_iTc, ↓b_wiTc, ↓b_lW, ↓b_lWc, ↓b_aW, ↓b_iW, ↓b_wiW, ↓b_jWc, ↓b_wjWc, ↓b_rt, ↓b_ru, ↓b_wt, ↓b_wu, ↓b_0l, ↓b_0, ↓b_1, ↓b_2, m_tk, ↓reduceIte, cond_true, cond_false, Option.bind_some, y_AM_step, e_AM_step_0, e_AM_step_28, e_AM_step_55, e_AM_step_70, ↓bV al, ↓bI y1, pos, show ¬ (100 : Nat) = 0 by decide, dv, ↓bI w1, i_11, i_01, i_1_0, i_0_1, not_true, not_false_eq_true, if_true, if_false, Bool.true_eq_false, Bool.false_eq_true, decide_true, decide_false]
          obtain ⟨f2, g2, R, z1, z2, z3, z4, z5, z6, z7⟩ := wfR (e + 1 + 1) (by omega) G' (c + 1) (s + 6) hmF'
          exact opk (lw_step_x4 cl) w2 z7 ⟨f2, g2, R, z1, z4, by rw [z5, c1]; rfl, fun hh => absurd hh (by decide), z2, z3⟩ (by omega) (by omega)
        · by_cases c2 : P.1 = 2
          · have cl : am_Y (e + 1) 79 [.ref 3, .int (nI i)] (mM xs f g t u c s) = some (.inr 3, mM xs F' G' t (15 + 5 * i) (c + 1) (s + 6)) := by
              have tr : nI (trC P.1) = 2 := by rw [c2]; rfl
              rw [tr] at w1
              simp (maxSteps := 4000000) (disch := first | omega | assumption) only [↓b_ix, ↓b_l3, ↓b_a3_0, ↓b_a3_1, ↓b_a3_2, ↓b_l4, ↓b_a4_0, ↓b_a4_1, ↓b_a4_2, ↓b_a4_3, ↓b_l129, ↓b_a129_0, ↓b_l130, ↓b_i130_1, ↓b_wi130_1, ↓b_l133, ↓b_a133_0, ↓b_a133_1, ↓b_i133_2, ↓b_wi133_2, ↓b_j133_3, ↓b_wj133_3, ↓b_i133_4, ↓b_wi133_4, ↓b_l134, ↓b_a134_0, ↓b_a134_1, ↓b_i134_2, ↓b_wi134_2, ↓b_i134_3, ↓b_wi134_3, ↓b_l135, ↓b_i135_1, ↓b_wi135_1, ↓b_l139, ↓b_a139_0, ↓b_a139_1, ↓b_a139_2, ↓b_a139_3, ↓b_a139_4, ↓b_a139_5, ↓b_a139_6, ↓b_a139_7, ↓b_a139_8, ↓b_a139_9, ↓b_a139_10, ↓b_a139_11, ↓b_a139_12, ↓b_a139_13, ↓b_a139_14, ↓b_i139_15, ↓b_wi139_15, ↓b_i139_16, ↓b_wi139_16, ↓b_i139_17, ↓b_wi139_17, ↓b_a139_18, ↓b_i139_19, ↓b_wi139_19, ↓b_i139_20, ↓b_wi139_20, ↓b_i139_21, ↓b_wi139_21, ↓b_l6, ↓b_i6, ↓b_wi6, ↓b_l140, ↓b_i140, ↓b_wi140, ↓b_l141, ↓b_i141, ↓b_wi141, ↓b_l142, ↓b_i142, ↓b_wi142, ↓b_l143, ↓b_i143, ↓b_wi143, ↓b_l144, ↓b_j144, ↓b_wj144, ↓b_l145, ↓b_j145, ↓b_wj145, ↓b_l146, ↓b_i146, ↓b_wi146, ↓b_l147, ↓b_i147, ↓b_wi147, ↓b_l148, ↓b_i148, ↓b_wi148, ↓b_l149, ↓b_i149, ↓b_wi149, ↓b_l150, ↓b_j150, ↓b_wj150, ↓b_l151, ↓b_i151, ↓b_wi151, ↓b_l152, ↓b_j152, ↓b_wj152, ↓b_l153, ↓b_i153, ↓b_wi153, ↓b_l154, ↓b_i154, ↓b_wi154, ↓b_l155, ↓b_j155, ↓b_wj155, ↓b_l156, ↓b_j156, ↓b_wj156, ↓b_l138, ↓b_j138, ↓b_wj138, ↓b_a5, ↓b_a13, ↓b_a44, ↓b_lA, ↓b_aA_0, ↓b_aA_1, ↓b_iA_2, ↓b_wiA_2, ↓b_iA_4, ↓b_wiA_4, ↓b_iA_5, ↓b_wiA_5, ↓b_iA_6, ↓b_wiA_6, ↓b_jA_3, ↓b_wjA_3, ↓b_lT, ↓b_lTc, ↓b_aT, ↓b_iT, ↓b_wiT, ↓b_iTc, ↓b_wiTc, ↓b_lW, ↓b_lWc, ↓b_aW, ↓b_iW, ↓b_wiW, ↓b_jWc, ↓b_wjWc, ↓b_rt, ↓b_ru, ↓b_wt, ↓b_wu, ↓b_0l, ↓b_0, ↓b_1, ↓b_2, m_tk, ↓reduceIte, cond_true, cond_false, Option.bind_some, y_AM_step, e_AM_step_0, e_AM_step_28, e_AM_step_55, e_AM_step_70, ↓bV al, ↓bI y1, pos, show ¬ (100 : Nat) = 0 by decide, dv, ↓bI w1, i_2_1, i_11, i_01, i_1_0, i_0_1, not_true, not_false_eq_true, if_true, if_false, Bool.true_eq_false, Bool.false_eq_true, decide_true, decide_false]
            obtain ⟨f2, g2, R, z1, z2, z3, z4, z5, z6, z7⟩ := wfR (e + 1 + 1) (by omega) G' (c + 1) (s + 6) hmF'
            exact opk (lw_step_x3 cl) w2 z7 ⟨f2, g2, R, z1, z4, by rw [z5, c2]; rfl, fun hh => absurd hh (by decide), z2, z3⟩ (by omega) (by omega)
          · have cd0 : cdF P.1 = 0 := by unfold cdF; rw [if_neg c1, if_neg c2]
            have tr0 : trC P.1 = 0 := by unfold trC; split <;> omega
            have ntr : ¬ nI (trC P.1) = 1 ∧ ¬ nI (trC P.1) = 2 := by rw [tr0]; decide
            have cl : am_Y (e + 1) 79 [.ref 3, .int (nI i)] (mM xs f g t u c s) = some (.inl (some (.int (nI (q.1 * 100 + q.2.1)))), mM xs F' G' t (15 + 5 * i) c s) := by
              simp (maxSteps := 4000000) (disch := first | omega | assumption) only [↓b_ix, ↓b_l3, ↓b_a3_0, ↓b_a3_1, ↓b_a3_2, ↓b_l4, ↓b_a4_0, ↓b_a4_1, ↓b_a4_2, ↓b_a4_3, ↓b_l129, ↓b_a129_0, ↓b_l130, ↓b_i130_1, ↓b_wi130_1, ↓b_l133, ↓b_a133_0, ↓b_a133_1, ↓b_i133_2, ↓b_wi133_2, ↓b_j133_3, ↓b_wj133_3, ↓b_i133_4, ↓b_wi133_4, ↓b_l134, ↓b_a134_0, ↓b_a134_1, ↓b_i134_2, ↓b_wi134_2, ↓b_i134_3, ↓b_wi134_3, ↓b_l135, ↓b_i135_1, ↓b_wi135_1, ↓b_l139, ↓b_a139_0, ↓b_a139_1, ↓b_a139_2, ↓b_a139_3, ↓b_a139_4, ↓b_a139_5, ↓b_a139_6, ↓b_a139_7, ↓b_a139_8, ↓b_a139_9, ↓b_a139_10, ↓b_a139_11, ↓b_a139_12, ↓b_a139_13, ↓b_a139_14, ↓b_i139_15, ↓b_wi139_15, ↓b_i139_16, ↓b_wi139_16, ↓b_i139_17, ↓b_wi139_17, ↓b_a139_18, ↓b_i139_19, ↓b_wi139_19, ↓b_i139_20, ↓b_wi139_20, ↓b_i139_21, ↓b_wi139_21, ↓b_l6, ↓b_i6, ↓b_wi6, ↓b_l140, ↓b_i140, ↓b_wi140, ↓b_l141, ↓b_i141, ↓b_wi141, ↓b_l142, ↓b_i142, ↓b_wi142, ↓b_l143, ↓b_i143, ↓b_wi143, ↓b_l144, ↓b_j144, ↓b_wj144, ↓b_l145, ↓b_j145, ↓b_wj145, ↓b_l146, ↓b_i146, ↓b_wi146, ↓b_l147, ↓b_i147, ↓b_wi147, ↓b_l148, ↓b_i148, ↓b_wi148, ↓b_l149, ↓b_i149, ↓b_wi149, ↓b_l150, ↓b_j150, ↓b_wj150, ↓b_l151, ↓b_i151, ↓b_wi151, ↓b_l152, ↓b_j152, ↓b_wj152, ↓b_l153, ↓b_i153, ↓b_wi153, ↓b_l154, ↓b_i154, ↓b_wi154, ↓b_l155, ↓b_j155, ↓b_wj155, ↓b_l156, ↓b_j156, ↓b_wj156, ↓b_l138, ↓b_j138, ↓b_wj138, ↓b_a5, ↓b_a13, ↓b_a44, ↓b_lA, ↓b_aA_0, ↓b_aA_1, ↓b_iA_2, ↓b_wiA_2, ↓b_iA_4, ↓b_wiA_4, ↓b_iA_5, ↓b_wiA_5, ↓b_iA_6, ↓b_wiA_6, ↓b_jA_3, ↓b_wjA_3, ↓b_lT, ↓b_lTc, ↓b_aT, ↓b_iT, ↓b_wiT, ↓b_iTc, ↓b_wiTc, ↓b_lW, ↓b_lWc, ↓b_aW, ↓b_iW, ↓b_wiW, ↓b_jWc, ↓b_wjWc, ↓b_rt, ↓b_ru, ↓b_wt, ↓b_wu, ↓b_0l, ↓b_0, ↓b_1, ↓b_2, m_tk, ↓reduceIte, cond_true, cond_false, Option.bind_some, y_AM_step, e_AM_step_0, e_AM_step_28, e_AM_step_55, e_AM_step_70, ↓bV al, ↓bI y1, pos, show ¬ (100 : Nat) = 0 by decide, dv, ↓bI w1, ntr.1, ntr.2, i_11, i_01, i_1_0, i_0_1, not_true, not_false_eq_true, if_true, if_false, Bool.true_eq_false, Bool.false_eq_true, decide_true, decide_false]
            obtain ⟨f2, g2, R, z1, z2, z3, z4, z5, z6, z7⟩ := wfR (e + 1 + 1) (by omega) (m_w G' 156 0 (nI (q.1 * 100 + q.2.1)).toInt64) c s (mA_156 hmF')
            refine opk (lw_step_ok cl) (cA_156 w2) z7 ⟨f2, g2, R, z1, z4, by rw [z5, cd0]; rfl, fun _ => ?_, z2, z3⟩ (by omega) (by omega)
            rw [z6 cd0, m_ww, show q.2.1 + 100 * q.1 = q.1 * 100 + q.2.1 by omega]
    · have ne : ¬ nI (S.1 1 i) = 1 := by have := (hb.1 i h6).1; rw [l_1, nI_eq (by omega) (by omega)]; exact hal
      have cl : am_Y (e + 1) 79 [.ref 3, .int (nI i)] (mM xs f g t u c s) = some (.inr 0, mM xs f g t u (c + 1) (s + 6)) := by
        simp (maxSteps := 4000000) (disch := first | omega | assumption) only [↓b_ix, ↓b_l3, ↓b_a3_0, ↓b_a3_1, ↓b_a3_2, ↓b_l4, ↓b_a4_0, ↓b_a4_1, ↓b_a4_2, ↓b_a4_3, ↓b_l129, ↓b_a129_0, ↓b_l130, ↓b_i130_1, ↓b_wi130_1, ↓b_l133, ↓b_a133_0, ↓b_a133_1, ↓b_i133_2, ↓b_wi133_2, ↓b_j133_3, ↓b_wj133_3, ↓b_i133_4, ↓b_wi133_4, ↓b_l134, ↓b_a134_0, ↓b_a134_1, ↓b_i134_2, ↓b_wi134_2, ↓b_i134_3, ↓b_wi134_3, ↓b_l135, ↓b_i135_1, ↓b_wi135_1, ↓b_l139, ↓b_a139_0, ↓b_a139_1, ↓b_a139_2, ↓b_a139_3, ↓b_a139_4, ↓b_a139_5, ↓b_a139_6, ↓b_a139_7, ↓b_a139_8, ↓b_a139_9, ↓b_a139_10, ↓b_a139_11, ↓b_a139_12, ↓b_a139_13, ↓b_a139_14, ↓b_i139_15, ↓b_wi139_15, ↓b_i139_16, ↓b_wi139_16, ↓b_i139_17, ↓b_wi139_17, ↓b_a139_18, ↓b_i139_19, ↓b_wi139_19, ↓b_i139_20, ↓b_wi139_20, ↓b_i139_21, ↓b_wi139_21, ↓b_l6, ↓b_i6, ↓b_wi6, ↓b_l140, ↓b_i140, ↓b_wi140, ↓b_l141, ↓b_i141, ↓b_wi141, ↓b_l142, ↓b_i142, ↓b_wi142, ↓b_l143, ↓b_i143, ↓b_wi143, ↓b_l144, ↓b_j144, ↓b_wj144, ↓b_l145, ↓b_j145, ↓b_wj145, ↓b_l146, ↓b_i146, ↓b_wi146, ↓b_l147, ↓b_i147, ↓b_wi147, ↓b_l148, ↓b_i148, ↓b_wi148, ↓b_l149, ↓b_i149, ↓b_wi149, ↓b_l150, ↓b_j150, ↓b_wj150, ↓b_l151, ↓b_i151, ↓b_wi151, ↓b_l152, ↓b_j152, ↓b_wj152, ↓b_l153, ↓b_i153, ↓b_wi153, ↓b_l154, ↓b_i154, ↓b_wi154, ↓b_l155, ↓b_j155, ↓b_wj155, ↓b_l156, ↓b_j156, ↓b_wj156, ↓b_l138, ↓b_j138, ↓b_wj138, ↓b_a5, ↓b_a13, ↓b_a44, ↓b_lA, ↓b_aA_0, ↓b_aA_1, ↓b_iA_2, ↓b_wiA_2, ↓b_iA_4, ↓b_wiA_4, ↓b_iA_5, ↓b_wiA_5, ↓b_iA_6, ↓b_wiA_6, ↓b_jA_3, ↓b_wjA_3, ↓b_lT, ↓b_lTc, ↓b_aT, ↓b_iT, ↓b_wiT, ↓b_iTc, ↓b_wiTc, ↓b_lW, ↓b_lWc, ↓b_aW, ↓b_iW, ↓b_wiW, ↓b_jWc, ↓b_wjWc, ↓b_rt, ↓b_ru, ↓b_wt, ↓b_wu, ↓b_0l, ↓b_0, ↓b_1, ↓b_2, m_tk, ↓reduceIte, cond_true, cond_false, Option.bind_some, y_AM_step, e_AM_step_0, e_AM_step_28, e_AM_step_55, e_AM_step_70, ↓xV (c_alive0 e2 h6 hr hc hb hal)]
      have hs2 : ∀ v, m_u f 139 21 v 143 i = nI (S.1 1 i) := fun v => by rw [m_un (by omega)]; exact hs143
      refine opk (lw_step_x0 cl) hc hwf (bad_fin (b := 0) hm (by decide) ?_) (by omega) (by omega)
      simp (maxSteps := 4000000) (disch := first | omega | assumption) only [↓b_ix, ↓b_l3, ↓b_a3_0, ↓b_a3_1, ↓b_a3_2, ↓b_l4, ↓b_a4_0, ↓b_a4_1, ↓b_a4_2, ↓b_a4_3, ↓b_l129, ↓b_a129_0, ↓b_l130, ↓b_i130_1, ↓b_wi130_1, ↓b_l133, ↓b_a133_0, ↓b_a133_1, ↓b_i133_2, ↓b_wi133_2, ↓b_j133_3, ↓b_wj133_3, ↓b_i133_4, ↓b_wi133_4, ↓b_l134, ↓b_a134_0, ↓b_a134_1, ↓b_i134_2, ↓b_wi134_2, ↓b_i134_3, ↓b_wi134_3, ↓b_l135, ↓b_i135_1, ↓b_wi135_1, ↓b_l139, ↓b_a139_0, ↓b_a139_1, ↓b_a139_2, ↓b_a139_3, ↓b_a139_4, ↓b_a139_5, ↓b_a139_6, ↓b_a139_7, ↓b_a139_8, ↓b_a139_9, ↓b_a139_10, ↓b_a139_11, ↓b_a139_12, ↓b_a139_13, ↓b_a139_14, ↓b_i139_15, ↓b_wi139_15, ↓b_i139_16, ↓b_wi139_16, ↓b_i139_17, ↓b_wi139_17, ↓b_a139_18, ↓b_i139_19, ↓b_wi139_19, ↓b_i139_20, ↓b_wi139_20, ↓b_i139_21, ↓b_wi139_21, ↓b_l6, ↓b_i6, ↓b_wi6, ↓b_l140, ↓b_i140, ↓b_wi140, ↓b_l141, ↓b_i141, ↓b_wi141, ↓b_l142, ↓b_i142, ↓b_wi142, ↓b_l143, ↓b_i143, ↓b_wi143, ↓b_l144, ↓b_j144, ↓b_wj144, ↓b_l145, ↓b_j145, ↓b_wj145, ↓b_l146, ↓b_i146, ↓b_wi146, ↓b_l147, ↓b_i147, ↓b_wi147, ↓b_l148, ↓b_i148, ↓b_wi148, ↓b_l149, ↓b_i149, ↓b_wi149, ↓b_l150, ↓b_j150, ↓b_wj150, ↓b_l151, ↓b_i151, ↓b_wi151, ↓b_l152, ↓b_j152, ↓b_wj152, ↓b_l153, ↓b_i153, ↓b_wi153, ↓b_l154, ↓b_i154, ↓b_wi154, ↓b_l155, ↓b_j155, ↓b_wj155, ↓b_l156, ↓b_j156, ↓b_wj156, ↓b_l138, ↓b_j138, ↓b_wj138, ↓b_a5, ↓b_a13, ↓b_a44, ↓b_lA, ↓b_aA_0, ↓b_aA_1, ↓b_iA_2, ↓b_wiA_2, ↓b_iA_4, ↓b_wiA_4, ↓b_iA_5, ↓b_wiA_5, ↓b_iA_6, ↓b_wiA_6, ↓b_jA_3, ↓b_wjA_3, ↓b_lT, ↓b_lTc, ↓b_aT, ↓b_iT, ↓b_wiT, ↓b_iTc, ↓b_wiTc, ↓b_lW, ↓b_lWc, ↓b_aW, ↓b_iW, ↓b_wiW, ↓b_jWc, ↓b_wjWc, ↓b_rt, ↓b_ru, ↓b_wt, ↓b_wu, ↓b_0l, ↓b_0, ↓b_1, ↓b_2, m_tk, ↓reduceIte, cond_true, cond_false, Option.bind_some, y_Md_step, e_Md_step_0, e_Md_step_16, e_Md_step_31, e_Md_step_32, ↓bI (m_in5 (show 1 ≤ e + 1 by omega) 0 5 hr), i_1_0, ↓bI (m_goodT (show 1 ≤ e + 1 by omega)), hs2, ne, ↓bI (m_goodX (show 1 ≤ e + 1 by omega)), m_u2, i_11, i_01, i_1_0, i_0_1, not_true, not_false_eq_true, if_true, if_false, Bool.true_eq_false, Bool.false_eq_true, decide_true, decide_false]
  · have cl : am_Y (e + 1) 79 [.ref 3, .int x] (mM xs f g t u c s) = some (.inr 1, mM xs f g t u (c + 1) (s + 6)) := by
      simp (maxSteps := 4000000) (disch := first | omega | assumption) only [↓b_ix, ↓b_l3, ↓b_a3_0, ↓b_a3_1, ↓b_a3_2, ↓b_l4, ↓b_a4_0, ↓b_a4_1, ↓b_a4_2, ↓b_a4_3, ↓b_l129, ↓b_a129_0, ↓b_l130, ↓b_i130_1, ↓b_wi130_1, ↓b_l133, ↓b_a133_0, ↓b_a133_1, ↓b_i133_2, ↓b_wi133_2, ↓b_j133_3, ↓b_wj133_3, ↓b_i133_4, ↓b_wi133_4, ↓b_l134, ↓b_a134_0, ↓b_a134_1, ↓b_i134_2, ↓b_wi134_2, ↓b_i134_3, ↓b_wi134_3, ↓b_l135, ↓b_i135_1, ↓b_wi135_1, ↓b_l139, ↓b_a139_0, ↓b_a139_1, ↓b_a139_2, ↓b_a139_3, ↓b_a139_4, ↓b_a139_5, ↓b_a139_6, ↓b_a139_7, ↓b_a139_8, ↓b_a139_9, ↓b_a139_10, ↓b_a139_11, ↓b_a139_12, ↓b_a139_13, ↓b_a139_14, ↓b_i139_15, ↓b_wi139_15, ↓b_i139_16, ↓b_wi139_16, ↓b_i139_17, ↓b_wi139_17, ↓b_a139_18, ↓b_i139_19, ↓b_wi139_19, ↓b_i139_20, ↓b_wi139_20, ↓b_i139_21, ↓b_wi139_21, ↓b_l6, ↓b_i6, ↓b_wi6, ↓b_l140, ↓b_i140, ↓b_wi140, ↓b_l141, ↓b_i141, ↓b_wi141, ↓b_l142, ↓b_i142, ↓b_wi142, ↓b_l143, ↓b_i143, ↓b_wi143, ↓b_l144, ↓b_j144, ↓b_wj144, ↓b_l145, ↓b_j145, ↓b_wj145, ↓b_l146, ↓b_i146, ↓b_wi146, ↓b_l147, ↓b_i147, ↓b_wi147, ↓b_l148, ↓b_i148, ↓b_wi148, ↓b_l149, ↓b_i149, ↓b_wi149, ↓b_l150, ↓b_j150, ↓b_wj150, ↓b_l151, ↓b_i151, ↓b_wi151, ↓b_l152, ↓b_j152, ↓b_wj152, ↓b_l153, ↓b_i153, ↓b_wi153, ↓b_l154, ↓b_i154, ↓b_wi154, ↓b_l155, ↓b_j155, ↓b_wj155, ↓b_l156, ↓b_j156, ↓b_wj156, ↓b_l138, ↓b_j138, ↓b_wj138, ↓b_a5, ↓b_a13, ↓b_a44, ↓b_lA, ↓b_aA_0, ↓b_aA_1, ↓b_iA_2, ↓b_wiA_2, ↓b_iA_4, ↓b_wiA_4, ↓b_iA_5, ↓b_wiA_5, ↓b_iA_6, ↓b_wiA_6, ↓b_jA_3, ↓b_wjA_3, ↓b_lT, ↓b_lTc, ↓b_aT, ↓b_iT, ↓b_wiT, ↓b_iTc, ↓b_wiTc, ↓b_lW, ↓b_lWc, ↓b_aW, ↓b_iW, ↓b_wiW, ↓b_jWc, ↓b_wjWc, ↓b_rt, ↓b_ru, ↓b_wt, ↓b_wu, ↓b_0l, ↓b_0, ↓b_1, ↓b_2, m_tk, ↓reduceIte, cond_true, cond_false, Option.bind_some, y_AM_step, e_AM_step_0, e_AM_step_28, e_AM_step_55, e_AM_step_70, ↓xV (c_aliveX e2 hr)]
    refine opk (lw_step_x1 cl) hc hwf (bad_fin (b := 0) hm (by decide) ?_) (by omega) (by omega)
    simp (maxSteps := 4000000) (disch := first | omega | assumption) only [↓b_ix, ↓b_l3, ↓b_a3_0, ↓b_a3_1, ↓b_a3_2, ↓b_l4, ↓b_a4_0, ↓b_a4_1, ↓b_a4_2, ↓b_a4_3, ↓b_l129, ↓b_a129_0, ↓b_l130, ↓b_i130_1, ↓b_wi130_1, ↓b_l133, ↓b_a133_0, ↓b_a133_1, ↓b_i133_2, ↓b_wi133_2, ↓b_j133_3, ↓b_wj133_3, ↓b_i133_4, ↓b_wi133_4, ↓b_l134, ↓b_a134_0, ↓b_a134_1, ↓b_i134_2, ↓b_wi134_2, ↓b_i134_3, ↓b_wi134_3, ↓b_l135, ↓b_i135_1, ↓b_wi135_1, ↓b_l139, ↓b_a139_0, ↓b_a139_1, ↓b_a139_2, ↓b_a139_3, ↓b_a139_4, ↓b_a139_5, ↓b_a139_6, ↓b_a139_7, ↓b_a139_8, ↓b_a139_9, ↓b_a139_10, ↓b_a139_11, ↓b_a139_12, ↓b_a139_13, ↓b_a139_14, ↓b_i139_15, ↓b_wi139_15, ↓b_i139_16, ↓b_wi139_16, ↓b_i139_17, ↓b_wi139_17, ↓b_a139_18, ↓b_i139_19, ↓b_wi139_19, ↓b_i139_20, ↓b_wi139_20, ↓b_i139_21, ↓b_wi139_21, ↓b_l6, ↓b_i6, ↓b_wi6, ↓b_l140, ↓b_i140, ↓b_wi140, ↓b_l141, ↓b_i141, ↓b_wi141, ↓b_l142, ↓b_i142, ↓b_wi142, ↓b_l143, ↓b_i143, ↓b_wi143, ↓b_l144, ↓b_j144, ↓b_wj144, ↓b_l145, ↓b_j145, ↓b_wj145, ↓b_l146, ↓b_i146, ↓b_wi146, ↓b_l147, ↓b_i147, ↓b_wi147, ↓b_l148, ↓b_i148, ↓b_wi148, ↓b_l149, ↓b_i149, ↓b_wi149, ↓b_l150, ↓b_j150, ↓b_wj150, ↓b_l151, ↓b_i151, ↓b_wi151, ↓b_l152, ↓b_j152, ↓b_wj152, ↓b_l153, ↓b_i153, ↓b_wi153, ↓b_l154, ↓b_i154, ↓b_wi154, ↓b_l155, ↓b_j155, ↓b_wj155, ↓b_l156, ↓b_j156, ↓b_wj156, ↓b_l138, ↓b_j138, ↓b_wj138, ↓b_a5, ↓b_a13, ↓b_a44, ↓b_lA, ↓b_aA_0, ↓b_aA_1, ↓b_iA_2, ↓b_wiA_2, ↓b_iA_4, ↓b_wiA_4, ↓b_iA_5, ↓b_wiA_5, ↓b_iA_6, ↓b_wiA_6, ↓b_jA_3, ↓b_wjA_3, ↓b_lT, ↓b_lTc, ↓b_aT, ↓b_iT, ↓b_wiT, ↓b_iTc, ↓b_wiTc, ↓b_lW, ↓b_lWc, ↓b_aW, ↓b_iW, ↓b_wiW, ↓b_jWc, ↓b_wjWc, ↓b_rt, ↓b_ru, ↓b_wt, ↓b_wu, ↓b_0l, ↓b_0, ↓b_1, ↓b_2, m_tk, ↓reduceIte, cond_true, cond_false, Option.bind_some, y_Md_step, e_Md_step_0, e_Md_step_16, e_Md_step_31, e_Md_step_32, ↓bI (m_in5X (show 1 ≤ e + 1 by omega) 0 5 hr), ↓bI (m_goodX (show 1 ≤ e + 1 by omega)), i_11, i_01, i_1_0, i_0_1, not_true, not_false_eq_true, if_true, if_false, Bool.true_eq_false, Bool.false_eq_true, decide_true, decide_false]
end OP
