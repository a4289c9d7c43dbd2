/-! THE CLASS'S WORLD -/
abbrev sS2 : Type := sA × sQ
def fr (f f' : mF) : Prop := ∀ x k, (129 ≤ x ∨ (14 ≤ x ∧ x < 44 ∧ (x % 5 = 0 ∨ x % 5 = 1))) → f' x k = f x k
def frg (g g' : mG) : Prop := ∀ x k, 129 ≤ x → g' x k = g x k
theorem fr_r (f : mF) : fr f f := fun _ _ _ => rfl
theorem frg_r (f : mG) : frg f f := fun _ _ _ => rfl
theorem fr_t {f f' f'' : mF} (h : fr f f') (h' : fr f' f'') : fr f f'' := fun x k hx => (h' x k hx).trans (h x k hx)
theorem frg_t {f f' f'' : mG} (h : frg f f') (h' : frg f' f'') : frg f f'' := fun x k hx => (h' x k hx).trans (h x k hx)
theorem fr_u {f f' : mF} {A k : Nat} {v : Int32} (h : fr f f') (hA : ¬ (129 ≤ A ∨ (14 ≤ A ∧ A < 44 ∧ (A % 5 = 0 ∨ A % 5 = 1)))) : fr f (m_u f' A k v) := fun x j hx => by rw [m_un (by omega)]; exact h x j hx
theorem frg_w {f f' : mG} {A k : Nat} {v : Int64} (h : frg f f') (hA : A < 129) : frg f (m_w f' A k v) := fun x j hx => by rw [m_wn (by omega)]; exact h x j hx
theorem frg_k {f f' : mG} {A i m : Nat} (h : frg f f') (hA : A < 129) : frg f (gTk f' A i m) := fun x j hx => by rw [gTk_n (by omega)]; exact h x j hx
/-- bounds of the numbers -/
def bd (a : sA) : Prop := (∀ i, i < 6 → a 1 i ≤ 2 ∧ a 2 i ≤ 1 ∧ a 4 i < 64 ∧ a 5 i ≤ 6) ∧ (∀ j, j < 42 → a 6 j ≤ 8) ∧ (∀ q, q < 9 → a 7 q ≤ 60) ∧ ∀ p, p < 3 → a 0 p ≤ 1
def clr (m i : Nat) : Nat := m - m / 2 ^ i % 2 * 2 ^ i
def pPut (S : sS2) (j : Nat) (x : sTm) : sS2 := if S.1 6 j < 8 then (aU S.1 6 j (S.1 6 j + 1), bU S.2 (10 + j) (S.1 6 j) x) else S
def pEnd0 (S : sS2) (i why : Nat) : sS2 := (aU (aU (aU (aU (aU S.1 1 i 2) 3 i why) 5 i 0) 2 i 0) 4 i 0, bU S.2 0 i (10, []))
def pEnd1 (m i why o : Nat) (S : sS2) : sS2 := if m / 2 ^ o % 2 = 0 then S else (aU (pPut S (6 * i + o) (9, [why])).1 4 o (clr ((pPut S (6 * i + o) (9, [why])).1 4 o) i), (pPut S (6 * i + o) (9, [why])).2)
def pEndL (m i why : Nat) : Nat → Nat → sS2 → sS2
  | 0, _, S => S
  | q + 1, o, S => pEndL m i why q (o + 1) (pEnd1 m i why o S)
def pEnd (S : sS2) (i why : Nat) : sS2 := pEndL (S.1 4 i) i why 6 0 (pEnd0 S i why)
def pLink (S : sS2) (x y : Nat) : sS2 := if x = y ∨ ¬ S.1 1 y = 1 then S else (aU (aU S.1 4 x (S.1 4 x ||| 2 ^ y)) 4 y ((aU S.1 4 x (S.1 4 x ||| 2 ^ y)) 4 y ||| 2 ^ x), S.2)
theorem bt_0 : ∀ m, m < 64 → ∀ o, o < 6 → ((nI m >>> (nI o &&& 31)) &&& 1 = 0 ↔ m / 2 ^ o % 2 = 0) := by decide +kernel
theorem bt_c : ∀ m, m < 64 → ∀ o, o < 6 → nI m &&& ((1 <<< (nI o &&& 31)) ^^^ (-1)) = nI (clr m o) := by decide +kernel
theorem bt_o : ∀ m, m < 64 → ∀ o, o < 6 → nI m ||| (1 <<< (nI o &&& 31)) = nI (m ||| 2 ^ o) := by decide +kernel
theorem bt_l : ∀ m, m < 64 → ∀ o, o < 6 → (m ||| 2 ^ o) < 64 ∧ clr m o < 64 := by decide +kernel
theorem bd_u {a : sA} (h : bd a) {x k v : Nat} (hx : (x = 1 → v ≤ 2) ∧ (x = 2 → v ≤ 1) ∧ (x = 4 → v < 64) ∧ (x = 5 → v ≤ 6) ∧ (x = 6 → v ≤ 8) ∧ (x = 7 → v ≤ 60) ∧ (x = 0 → v ≤ 1)) : bd (aU a x k v) := by
  obtain ⟨h1, h2, h3, h4⟩ := h
  obtain ⟨x1, x2, x4, x5, x6, x7, x0⟩ := hx
  have st : ∀ y j B, (y = x → v ≤ B) → a y j ≤ B → aU a x k v y j ≤ B := by
    intro y j B e1 e2
    unfold aU
    by_cases e : y = x ∧ j = k
    · rw [if_pos e]; exact e1 e.1
    · rw [if_neg e]; exact e2
  refine ⟨fun i hi => ⟨st 1 i 2 (fun e => x1 e.symm) (h1 i hi).1, st 2 i 1 (fun e => x2 e.symm) (h1 i hi).2.1, ?_, st 5 i 6 (fun e => x5 e.symm) (h1 i hi).2.2.2⟩, fun j hj => st 6 j 8 (fun e => x6 e.symm) (h2 j hj), fun q hq => st 7 q 60 (fun e => x7 e.symm) (h3 q hq), fun p hp => st 0 p 1 (fun e => x0 e.symm) (h4 p hp)⟩
  have := st 4 i 63 (fun e => by have := x4 e.symm; omega) (by have := (h1 i hi).2.2.1; omega)
  omega
theorem bd_put {S : sS2} (h : bd S.1) (j : Nat) (x : sTm) : bd (pPut S j x).1 := by
  unfold pPut; split
  · exact bd_u h ⟨by omega, by omega, by omega, by omega, by omega, by omega, by omega⟩
  · exact h
theorem pPut_a {S : sS2} {j y k : Nat} {x : sTm} (h : y ≠ 6) : (pPut S j x).1 y k = S.1 y k := by
  unfold pPut; split
  · exact aU_n (.inl h)
  · rfl
theorem bd_end1 {S : sS2} {m i why o : Nat} (h : bd S.1) (hi : i < 6) (ho : o < 6) : bd (pEnd1 m i why o S).1 := by
  unfold pEnd1; split
  · exact h
  · refine bd_u (bd_put h _ _) ⟨by omega, by omega, fun _ => ?_, by omega, by omega, by omega, by omega⟩
    rw [pPut_a (by decide)]
    exact (bt_l _ (h.1 o ho).2.2.1 i hi).2
theorem bd_end0 {S : sS2} {i why : Nat} (h : bd S.1) : bd (pEnd0 S i why).1 :=
  bd_u (bd_u (bd_u (bd_u (bd_u h ⟨by omega, by omega, by omega, by omega, by omega, by omega, by omega⟩) ⟨by omega, by omega, by omega, by omega, by omega, by omega, by omega⟩) ⟨by omega, by omega, by omega, by omega, by omega, by omega, by omega⟩) ⟨by omega, by omega, by omega, by omega, by omega, by omega, by omega⟩) ⟨by omega, by omega, by omega, by omega, by omega, by omega, by omega⟩
theorem bd_endL {m i why : Nat} (hi : i < 6) : ∀ q o {S : sS2}, q + o = 6 → bd S.1 → bd (pEndL m i why q o S).1
  | 0, _, _, _, h => h
  | q + 1, o, _, e, h => bd_endL hi q (o + 1) (by omega) (bd_end1 h hi (by omega))
theorem bd_end {S : sS2} {i why : Nat} (h : bd S.1) (hi : i < 6) : bd (pEnd S i why).1 := bd_endL hi 6 0 rfl (bd_end0 h)
theorem bd_link {S : sS2} {x y : Nat} (h : bd S.1) (hx : x < 6) (hy : y < 6) : bd (pLink S x y).1 := by
  unfold pLink; split
  · exact h
  · have h1 : bd (aU S.1 4 x (S.1 4 x ||| 2 ^ y)) := bd_u h ⟨by omega, by omega, fun _ => (bt_l _ (h.1 x hx).2.2.1 y hy).1, by omega, by omega, by omega, by omega⟩
    exact bd_u h1 ⟨by omega, by omega, fun _ => (bt_l _ (h1.1 y hy).2.2.1 x hx).1, by omega, by omega, by omega, by omega⟩
section CW
variable {xs : List Int32} {f : mF} {g : mG} {t u c s d : Nat} {S : sS2}
theorem cTh_10 : cTh (10, []) = 0 := rfl
theorem c_put {W n m : Nat} {x : Int64} (hd : 1 ≤ d) (hW : mW W n) (hm : f W 1 = nI m) (hn : m ≤ n) : am_Y d 31 [.ref W, .long x] (mM xs f g t u c s) = some (.inl none, if m < n then mM xs (m_u f W 1 (nI (m + 1))) (m_w g (W + 1) m x) t u c s else mM xs f g t u c s) := by
  obtain ⟨d, rfl⟩ : ∃ e, d = e + 1 := ⟨d - 1, by omega⟩
  have q := mW_s W n hW
  by_cases h : m < n
  · simp (maxSteps := 4000000) (disch := first | omega | assumption) only [↓b_ix, ↓b_l3, ↓b_a3_0, ↓b_a3_1, ↓b_a3_2, ↓b_l4, ↓b_a4_0, ↓b_a4_1, ↓b_a4_2, ↓b_a4_3, ↓b_l129, ↓b_a129_0, ↓b_l130, ↓b_i130_1, ↓b_wi130_1, ↓b_l133, ↓b_a133_0, ↓b_a133_1, ↓b_i133_2, ↓b_wi133_2, ↓b_j133_3, ↓b_wj133_3, ↓b_i133_4, ↓b_wi133_4, ↓b_l134, ↓b_a134_0, ↓b_a134_1, ↓b_i134_2, ↓b_wi134_2, ↓b_i134_3, ↓b_wi134_3, ↓b_l135, ↓b_i135_1, ↓b_wi135_1, ↓b_l139, ↓b_a139_0, ↓b_a139_1, ↓b_a139_2, ↓b_a139_3, ↓b_a139_4, ↓b_a139_5, ↓b_a139_6, ↓b_a139_7, ↓b_a139_8, ↓b_a139_9, ↓b_a139_10, ↓b_a139_11, ↓b_a139_12, ↓b_a139_13, ↓b_a139_14, ↓b_i139_15, ↓b_wi139_15, ↓b_i139_16, ↓b_wi139_16, ↓b_i139_17, ↓b_wi139_17, ↓b_a139_18, ↓b_i139_19, ↓b_wi139_19, ↓b_i139_20, ↓b_wi139_20, ↓b_i139_21, ↓b_wi139_21, ↓b_l6, ↓b_i6, ↓b_wi6, ↓b_l140, ↓b_i140, ↓b_wi140, ↓b_l141, ↓b_i141, ↓b_wi141, ↓b_l142, ↓b_i142, ↓b_wi142, ↓b_l143, ↓b_i143, ↓b_wi143, ↓b_l144, ↓b_j144, ↓b_wj144, ↓b_l145, ↓b_j145, ↓b_wj145, ↓b_l146, ↓b_i146, ↓b_wi146, ↓b_l147, ↓b_i147, ↓b_wi147, ↓b_l148, ↓b_i148, ↓b_wi148, ↓b_l149, ↓b_i149, ↓b_wi149, ↓b_l150, ↓b_j150, ↓b_wj150, ↓b_l151, ↓b_i151, ↓b_wi151, ↓b_l152, ↓b_j152, ↓b_wj152, ↓b_l153, ↓b_i153, ↓b_wi153, ↓b_l154, ↓b_i154, ↓b_wi154, ↓b_l155, ↓b_j155, ↓b_wj155, ↓b_l156, ↓b_j156, ↓b_wj156, ↓b_l138, ↓b_j138, ↓b_wj138, ↓b_a5, ↓b_a13, ↓b_a44, ↓b_lA, ↓b_aA_0, ↓b_aA_1, ↓b_iA_2, ↓b_wiA_2, ↓b_iA_4, ↓b_wiA_4, ↓b_iA_5, ↓b_wiA_5, ↓b_iA_6, ↓b_wiA_6, ↓b_jA_3, ↓b_wjA_3, ↓b_lT, ↓b_lTc, ↓b_aT, ↓b_iT, ↓b_wiT, ↓b_iTc, ↓b_wiTc, ↓b_lW, ↓b_lWc, ↓b_aW, ↓b_iW, ↓b_wiW, ↓b_jWc, ↓b_wjWc, ↓b_rt, ↓b_ru, ↓b_wt, ↓b_wu, ↓b_0l, ↓b_0, ↓b_1, ↓b_2, m_tk, ↓reduceIte, cond_true, cond_false, Option.bind_some, y_Row_put, e_Row_put_0, e_Row_put_32, ↓b_lWc _ hW, ↓b_jWc _ hW, hm, nI_leI, nI_1, show ¬ n ≤ m by omega, h, if_true, if_false]
  · simp (maxSteps := 4000000) (disch := first | omega | assumption) only [↓b_ix, ↓b_l3, ↓b_a3_0, ↓b_a3_1, ↓b_a3_2, ↓b_l4, ↓b_a4_0, ↓b_a4_1, ↓b_a4_2, ↓b_a4_3, ↓b_l129, ↓b_a129_0, ↓b_l130, ↓b_i130_1, ↓b_wi130_1, ↓b_l133, ↓b_a133_0, ↓b_a133_1, ↓b_i133_2, ↓b_wi133_2, ↓b_j133_3, ↓b_wj133_3, ↓b_i133_4, ↓b_wi133_4, ↓b_l134, ↓b_a134_0, ↓b_a134_1, ↓b_i134_2, ↓b_wi134_2, ↓b_i134_3, ↓b_wi134_3, ↓b_l135, ↓b_i135_1, ↓b_wi135_1, ↓b_l139, ↓b_a139_0, ↓b_a139_1, ↓b_a139_2, ↓b_a139_3, ↓b_a139_4, ↓b_a139_5, ↓b_a139_6, ↓b_a139_7, ↓b_a139_8, ↓b_a139_9, ↓b_a139_10, ↓b_a139_11, ↓b_a139_12, ↓b_a139_13, ↓b_a139_14, ↓b_i139_15, ↓b_wi139_15, ↓b_i139_16, ↓b_wi139_16, ↓b_i139_17, ↓b_wi139_17, ↓b_a139_18, ↓b_i139_19, ↓b_wi139_19, ↓b_i139_20, ↓b_wi139_20, ↓b_i139_21, ↓b_wi139_21, ↓b_l6, ↓b_i6, ↓b_wi6, ↓b_l140, ↓b_i140, ↓b_wi140, ↓b_l141, ↓b_i141, ↓b_wi141, ↓b_l142, ↓b_i142, ↓b_wi142, ↓b_l143, ↓b_i143, ↓b_wi143, ↓b_l144, ↓b_j144, ↓b_wj144, ↓b_l145, ↓b_j145, ↓b_wj145, ↓b_l146, ↓b_i146, ↓b_wi146, ↓b_l147, ↓b_i147, ↓b_wi147, ↓b_l148, ↓b_i148, ↓b_wi148, ↓b_l149, ↓b_i149, ↓b_wi149, ↓b_l150, ↓b_j150, ↓b_wj150, ↓b_l151, ↓b_i151, ↓b_wi151, ↓b_l152, ↓b_j152, ↓b_wj152, ↓b_l153, ↓b_i153, ↓b_wi153, ↓b_l154, ↓b_i154, ↓b_wi154, ↓b_l155, ↓b_j155, ↓b_wj155, ↓b_l156, ↓b_j156, ↓b_wj156, ↓b_l138, ↓b_j138, ↓b_wj138, ↓b_a5, ↓b_a13, ↓b_a44, ↓b_lA, ↓b_aA_0, ↓b_aA_1, ↓b_iA_2, ↓b_wiA_2, ↓b_iA_4, ↓b_wiA_4, ↓b_iA_5, ↓b_wiA_5, ↓b_iA_6, ↓b_wiA_6, ↓b_jA_3, ↓b_wjA_3, ↓b_lT, ↓b_lTc, ↓b_aT, ↓b_iT, ↓b_wiT, ↓b_iTc, ↓b_wiTc, ↓b_lW, ↓b_lWc, ↓b_aW, ↓b_iW, ↓b_wiW, ↓b_jWc, ↓b_wjWc, ↓b_rt, ↓b_ru, ↓b_wt, ↓b_wu, ↓b_0l, ↓b_0, ↓b_1, ↓b_2, m_tk, ↓reduceIte, cond_true, cond_false, Option.bind_some, y_Row_put, e_Row_put_0, e_Row_put_32, ↓b_lWc _ hW, hm, nI_leI, show n ≤ m by omega, h, if_true, if_false]
theorem c_at {W n m i : Nat} (hd : 1 ≤ d) (hW : mW W n) (hm : f W 1 = nI m) (hn : m ≤ n) (hi : i < 100) : am_Y d 32 [.ref W, .int (nI i)] (mM xs f g t u c s) = some (.inl (some (.long (if i < m then g (W + 1) i else 0))), mM xs f g t u c s) := by
  obtain ⟨d, rfl⟩ : ∃ e, d = e + 1 := ⟨d - 1, by omega⟩
  have q := mW_s W n hW
  by_cases h : i < m
  · simp (maxSteps := 4000000) (disch := first | omega | assumption) only [↓b_ix, ↓b_l3, ↓b_a3_0, ↓b_a3_1, ↓b_a3_2, ↓b_l4, ↓b_a4_0, ↓b_a4_1, ↓b_a4_2, ↓b_a4_3, ↓b_l129, ↓b_a129_0, ↓b_l130, ↓b_i130_1, ↓b_wi130_1, ↓b_l133, ↓b_a133_0, ↓b_a133_1, ↓b_i133_2, ↓b_wi133_2, ↓b_j133_3, ↓b_wj133_3, ↓b_i133_4, ↓b_wi133_4, ↓b_l134, ↓b_a134_0, ↓b_a134_1, ↓b_i134_2, ↓b_wi134_2, ↓b_i134_3, ↓b_wi134_3, ↓b_l135, ↓b_i135_1, ↓b_wi135_1, ↓b_l139, ↓b_a139_0, ↓b_a139_1, ↓b_a139_2, ↓b_a139_3, ↓b_a139_4, ↓b_a139_5, ↓b_a139_6, ↓b_a139_7, ↓b_a139_8, ↓b_a139_9, ↓b_a139_10, ↓b_a139_11, ↓b_a139_12, ↓b_a139_13, ↓b_a139_14, ↓b_i139_15, ↓b_wi139_15, ↓b_i139_16, ↓b_wi139_16, ↓b_i139_17, ↓b_wi139_17, ↓b_a139_18, ↓b_i139_19, ↓b_wi139_19, ↓b_i139_20, ↓b_wi139_20, ↓b_i139_21, ↓b_wi139_21, ↓b_l6, ↓b_i6, ↓b_wi6, ↓b_l140, ↓b_i140, ↓b_wi140, ↓b_l141, ↓b_i141, ↓b_wi141, ↓b_l142, ↓b_i142, ↓b_wi142, ↓b_l143, ↓b_i143, ↓b_wi143, ↓b_l144, ↓b_j144, ↓b_wj144, ↓b_l145, ↓b_j145, ↓b_wj145, ↓b_l146, ↓b_i146, ↓b_wi146, ↓b_l147, ↓b_i147, ↓b_wi147, ↓b_l148, ↓b_i148, ↓b_wi148, ↓b_l149, ↓b_i149, ↓b_wi149, ↓b_l150, ↓b_j150, ↓b_wj150, ↓b_l151, ↓b_i151, ↓b_wi151, ↓b_l152, ↓b_j152, ↓b_wj152, ↓b_l153, ↓b_i153, ↓b_wi153, ↓b_l154, ↓b_i154, ↓b_wi154, ↓b_l155, ↓b_j155, ↓b_wj155, ↓b_l156, ↓b_j156, ↓b_wj156, ↓b_l138, ↓b_j138, ↓b_wj138, ↓b_a5, ↓b_a13, ↓b_a44, ↓b_lA, ↓b_aA_0, ↓b_aA_1, ↓b_iA_2, ↓b_wiA_2, ↓b_iA_4, ↓b_wiA_4, ↓b_iA_5, ↓b_wiA_5, ↓b_iA_6, ↓b_wiA_6, ↓b_jA_3, ↓b_wjA_3, ↓b_lT, ↓b_lTc, ↓b_aT, ↓b_iT, ↓b_wiT, ↓b_iTc, ↓b_wiTc, ↓b_lW, ↓b_lWc, ↓b_aW, ↓b_iW, ↓b_wiW, ↓b_jWc, ↓b_wjWc, ↓b_rt, ↓b_ru, ↓b_wt, ↓b_wu, ↓b_0l, ↓b_0, ↓b_1, ↓b_2, m_tk, ↓reduceIte, cond_true, cond_false, Option.bind_some, y_Row_at, e_Row_at_0, e_Row_at_12, e_Row_at_16, e_Row_at_22, ↓b_jWc _ hW, hm, nI_pos, nI_ltI, h, if_true, if_false]
  · simp (maxSteps := 4000000) (disch := first | omega | assumption) only [↓b_ix, ↓b_l3, ↓b_a3_0, ↓b_a3_1, ↓b_a3_2, ↓b_l4, ↓b_a4_0, ↓b_a4_1, ↓b_a4_2, ↓b_a4_3, ↓b_l129, ↓b_a129_0, ↓b_l130, ↓b_i130_1, ↓b_wi130_1, ↓b_l133, ↓b_a133_0, ↓b_a133_1, ↓b_i133_2, ↓b_wi133_2, ↓b_j133_3, ↓b_wj133_3, ↓b_i133_4, ↓b_wi133_4, ↓b_l134, ↓b_a134_0, ↓b_a134_1, ↓b_i134_2, ↓b_wi134_2, ↓b_i134_3, ↓b_wi134_3, ↓b_l135, ↓b_i135_1, ↓b_wi135_1, ↓b_l139, ↓b_a139_0, ↓b_a139_1, ↓b_a139_2, ↓b_a139_3, ↓b_a139_4, ↓b_a139_5, ↓b_a139_6, ↓b_a139_7, ↓b_a139_8, ↓b_a139_9, ↓b_a139_10, ↓b_a139_11, ↓b_a139_12, ↓b_a139_13, ↓b_a139_14, ↓b_i139_15, ↓b_wi139_15, ↓b_i139_16, ↓b_wi139_16, ↓b_i139_17, ↓b_wi139_17, ↓b_a139_18, ↓b_i139_19, ↓b_wi139_19, ↓b_i139_20, ↓b_wi139_20, ↓b_i139_21, ↓b_wi139_21, ↓b_l6, ↓b_i6, ↓b_wi6, ↓b_l140, ↓b_i140, ↓b_wi140, ↓b_l141, ↓b_i141, ↓b_wi141, ↓b_l142, ↓b_i142, ↓b_wi142, ↓b_l143, ↓b_i143, ↓b_wi143, ↓b_l144, ↓b_j144, ↓b_wj144, ↓b_l145, ↓b_j145, ↓b_wj145, ↓b_l146, ↓b_i146, ↓b_wi146, ↓b_l147, ↓b_i147, ↓b_wi147, ↓b_l148, ↓b_i148, ↓b_wi148, ↓b_l149, ↓b_i149, ↓b_wi149, ↓b_l150, ↓b_j150, ↓b_wj150, ↓b_l151, ↓b_i151, ↓b_wi151, ↓b_l152, ↓b_j152, ↓b_wj152, ↓b_l153, ↓b_i153, ↓b_wi153, ↓b_l154, ↓b_i154, ↓b_wi154, ↓b_l155, ↓b_j155, ↓b_wj155, ↓b_l156, ↓b_j156, ↓b_wj156, ↓b_l138, ↓b_j138, ↓b_wj138, ↓b_a5, ↓b_a13, ↓b_a44, ↓b_lA, ↓b_aA_0, ↓b_aA_1, ↓b_iA_2, ↓b_wiA_2, ↓b_iA_4, ↓b_wiA_4, ↓b_iA_5, ↓b_wiA_5, ↓b_iA_6, ↓b_wiA_6, ↓b_jA_3, ↓b_wjA_3, ↓b_lT, ↓b_lTc, ↓b_aT, ↓b_iT, ↓b_wiT, ↓b_iTc, ↓b_wiTc, ↓b_lW, ↓b_lWc, ↓b_aW, ↓b_iW, ↓b_wiW, ↓b_jWc, ↓b_wjWc, ↓b_rt, ↓b_ru, ↓b_wt, ↓b_wu, ↓b_0l, ↓b_0, ↓b_1, ↓b_2, m_tk, ↓reduceIte, cond_true, cond_false, Option.bind_some, y_Row_at, e_Row_at_0, e_Row_at_12, e_Row_at_16, e_Row_at_22, hm, nI_pos, nI_ltI, h, if_true, if_false]
theorem gTk_step {W i m k : Nat} (h : k + 1 < m) (hk : i ≤ k) : m_w (fun x j => if x = W ∧ i ≤ j ∧ j < k then g W (j + 1) else g x j) W k (g W (k + 1)) = (fun x j => if x = W ∧ i ≤ j ∧ j < k + 1 then g W (j + 1) else g x j) := by
  funext x j
  simp only [m_w]
  by_cases e : x = W ∧ j = k
  · rw [if_pos e, if_pos (by omega), e.2]
  · rw [if_neg e]
    by_cases e2 : x = W ∧ i ≤ j ∧ j < k
    · rw [if_pos e2, if_pos (by omega)]
    · rw [if_neg e2, if_neg (by omega)]
theorem c_takeL {W n m i : Nat} {cal : aY} (hW : mW W n) (hm : f W 1 = nI m) (hn : m ≤ n) : ∀ q k, q + (k + 1) = m → i ≤ k → am_X cal k_Row_take 17 [(0, .ref W), (2, .int (nI (k + 1)))] [] (mM xs f (fun x j => if x = W + 1 ∧ i ≤ j ∧ j < k then g (W + 1) (j + 1) else g x j) t u c s) = some (.inl none, mM xs (m_u f W 1 (nI (m - 1))) (gTk g (W + 1) i m) t u c s)
  | 0, k, hq, hk => by
    have q := mW_s W n hW
    rw [e_Row_take_17]
    simp (maxSteps := 4000000) (disch := first | omega | assumption) only [↓b_ix, ↓b_l3, ↓b_a3_0, ↓b_a3_1, ↓b_a3_2, ↓b_l4, ↓b_a4_0, ↓b_a4_1, ↓b_a4_2, ↓b_a4_3, ↓b_l129, ↓b_a129_0, ↓b_l130, ↓b_i130_1, ↓b_wi130_1, ↓b_l133, ↓b_a133_0, ↓b_a133_1, ↓b_i133_2, ↓b_wi133_2, ↓b_j133_3, ↓b_wj133_3, ↓b_i133_4, ↓b_wi133_4, ↓b_l134, ↓b_a134_0, ↓b_a134_1, ↓b_i134_2, ↓b_wi134_2, ↓b_i134_3, ↓b_wi134_3, ↓b_l135, ↓b_i135_1, ↓b_wi135_1, ↓b_l139, ↓b_a139_0, ↓b_a139_1, ↓b_a139_2, ↓b_a139_3, ↓b_a139_4, ↓b_a139_5, ↓b_a139_6, ↓b_a139_7, ↓b_a139_8, ↓b_a139_9, ↓b_a139_10, ↓b_a139_11, ↓b_a139_12, ↓b_a139_13, ↓b_a139_14, ↓b_i139_15, ↓b_wi139_15, ↓b_i139_16, ↓b_wi139_16, ↓b_i139_17, ↓b_wi139_17, ↓b_a139_18, ↓b_i139_19, ↓b_wi139_19, ↓b_i139_20, ↓b_wi139_20, ↓b_i139_21, ↓b_wi139_21, ↓b_l6, ↓b_i6, ↓b_wi6, ↓b_l140, ↓b_i140, ↓b_wi140, ↓b_l141, ↓b_i141, ↓b_wi141, ↓b_l142, ↓b_i142, ↓b_wi142, ↓b_l143, ↓b_i143, ↓b_wi143, ↓b_l144, ↓b_j144, ↓b_wj144, ↓b_l145, ↓b_j145, ↓b_wj145, ↓b_l146, ↓b_i146, ↓b_wi146, ↓b_l147, ↓b_i147, ↓b_wi147, ↓b_l148, ↓b_i148, ↓b_wi148, ↓b_l149, ↓b_i149, ↓b_wi149, ↓b_l150, ↓b_j150, ↓b_wj150, ↓b_l151, ↓b_i151, ↓b_wi151, ↓b_l152, ↓b_j152, ↓b_wj152, ↓b_l153, ↓b_i153, ↓b_wi153, ↓b_l154, ↓b_i154, ↓b_wi154, ↓b_l155, ↓b_j155, ↓b_wj155, ↓b_l156, ↓b_j156, ↓b_wj156, ↓b_l138, ↓b_j138, ↓b_wj138, ↓b_a5, ↓b_a13, ↓b_a44, ↓b_lA, ↓b_aA_0, ↓b_aA_1, ↓b_iA_2, ↓b_wiA_2, ↓b_iA_4, ↓b_wiA_4, ↓b_iA_5, ↓b_wiA_5, ↓b_iA_6, ↓b_wiA_6, ↓b_jA_3, ↓b_wjA_3, ↓b_lT, ↓b_lTc, ↓b_aT, ↓b_iT, ↓b_wiT, ↓b_iTc, ↓b_wiTc, ↓b_lW, ↓b_lWc, ↓b_aW, ↓b_iW, ↓b_wiW, ↓b_jWc, ↓b_wjWc, ↓b_rt, ↓b_ru, ↓b_wt, ↓b_wu, ↓b_0l, ↓b_0, ↓b_1, ↓b_2, m_tk, ↓reduceIte, cond_true, cond_false, Option.bind_some, e_Row_take_0, e_Row_take_12, e_Row_take_13, e_Row_take_45, hm, nI_leI, show m ≤ k + 1 by omega, if_true]
    rw [show nI m - 1 = nI (m - 1) from nI_sub (a := m) (b := 1) (by omega), show (fun x j => if x = W + 1 ∧ i ≤ j ∧ j < k then g (W + 1) (j + 1) else g x j) = gTk g (W + 1) i m from ?_]
    funext x j
    unfold gTk
    by_cases e : x = W + 1 ∧ i ≤ j ∧ j < k
    · rw [if_pos e, if_pos (by omega)]
    · rw [if_neg e, if_neg (by omega)]
  | q + 1, k, hq, hk => by
    have qq := mW_s W n hW
    have ih := c_takeL (i := i) (cal := cal) hW hm hn q (k + 1) (by omega) (by omega)
    rw [← gTk_step (m := m) (by omega) hk] at ih
    rw [← ih, e_Row_take_17]
    simp (maxSteps := 4000000) (disch := first | omega | assumption) only [↓b_ix, ↓b_l3, ↓b_a3_0, ↓b_a3_1, ↓b_a3_2, ↓b_l4, ↓b_a4_0, ↓b_a4_1, ↓b_a4_2, ↓b_a4_3, ↓b_l129, ↓b_a129_0, ↓b_l130, ↓b_i130_1, ↓b_wi130_1, ↓b_l133, ↓b_a133_0, ↓b_a133_1, ↓b_i133_2, ↓b_wi133_2, ↓b_j133_3, ↓b_wj133_3, ↓b_i133_4, ↓b_wi133_4, ↓b_l134, ↓b_a134_0, ↓b_a134_1, ↓b_i134_2, ↓b_wi134_2, ↓b_i134_3, ↓b_wi134_3, ↓b_l135, ↓b_i135_1, ↓b_wi135_1, ↓b_l139, ↓b_a139_0, ↓b_a139_1, ↓b_a139_2, ↓b_a139_3, ↓b_a139_4, ↓b_a139_5, ↓b_a139_6, ↓b_a139_7, ↓b_a139_8, ↓b_a139_9, ↓b_a139_10, ↓b_a139_11, ↓b_a139_12, ↓b_a139_13, ↓b_a139_14, ↓b_i139_15, ↓b_wi139_15, ↓b_i139_16, ↓b_wi139_16, ↓b_i139_17, ↓b_wi139_17, ↓b_a139_18, ↓b_i139_19, ↓b_wi139_19, ↓b_i139_20, ↓b_wi139_20, ↓b_i139_21, ↓b_wi139_21, ↓b_l6, ↓b_i6, ↓b_wi6, ↓b_l140, ↓b_i140, ↓b_wi140, ↓b_l141, ↓b_i141, ↓b_wi141, ↓b_l142, ↓b_i142, ↓b_wi142, ↓b_l143, ↓b_i143, ↓b_wi143, ↓b_l144, ↓b_j144, ↓b_wj144, ↓b_l145, ↓b_j145, ↓b_wj145, ↓b_l146, ↓b_i146, ↓b_wi146, ↓b_l147, ↓b_i147, ↓b_wi147, ↓b_l148, ↓b_i148, ↓b_wi148, ↓b_l149, ↓b_i149, ↓b_wi149, ↓b_l150, ↓b_j150, ↓b_wj150, ↓b_l151, ↓b_i151, ↓b_wi151, ↓b_l152, ↓b_j152, ↓b_wj152, ↓b_l153, ↓b_i153, ↓b_wi153, ↓b_l154, ↓b_i154, ↓b_wi154, ↓b_l155, ↓b_j155, ↓b_wj155, ↓b_l156, ↓b_j156, ↓b_wj156, ↓b_l138, ↓b_j138, ↓b_wj138, ↓b_a5, ↓b_a13, ↓b_a44, ↓b_lA, ↓b_aA_0, ↓b_aA_1, ↓b_iA_2, ↓b_wiA_2, ↓b_iA_4, ↓b_wiA_4, ↓b_iA_5, ↓b_wiA_5, ↓b_iA_6, ↓b_wiA_6, ↓b_jA_3, ↓b_wjA_3, ↓b_lT, ↓b_lTc, ↓b_aT, ↓b_iT, ↓b_wiT, ↓b_iTc, ↓b_wiTc, ↓b_lW, ↓b_lWc, ↓b_aW, ↓b_iW, ↓b_wiW, ↓b_jWc, ↓b_wjWc, ↓b_rt, ↓b_ru, ↓b_wt, ↓b_wu, ↓b_0l, ↓b_0, ↓b_1, ↓b_2, m_tk, ↓reduceIte, cond_true, cond_false, Option.bind_some, hm, nI_leI, nI_pred, nI_1, show ¬ m ≤ k + 1 by omega, ↓b_jWc _ hW, ↓b_wjWc _ hW, if_false]
    rw [if_neg (show ¬ (True ∧ i ≤ k + 1 ∧ k + 1 < k) by omega)]
theorem c_take {W n m i : Nat} (hd : 1 ≤ d) (hW : mW W n) (hm : f W 1 = nI m) (hn : m ≤ n) (hi : i < m) : am_Y d 33 [.ref W, .int (nI i)] (mM xs f g t u c s) = some (.inl none, mM xs (m_u f W 1 (nI (m - 1))) (gTk g (W + 1) i m) t u c s) := by
  obtain ⟨d, rfl⟩ : ∃ e, d = e + 1 := ⟨d - 1, by omega⟩
  have q := mW_s W n hW
  have ih := c_takeL (xs := xs) (g := g) (t := t) (u := u) (c := c) (s := s) (i := i) (cal := am_Y d) hW hm hn (m - (i + 1)) i (by omega) (by omega)
  rw [show (fun x j => if x = W + 1 ∧ i ≤ j ∧ j < i then g (W + 1) (j + 1) else g x j) = g from (by funext x j; rw [if_neg (by omega)])] at ih
  simp (maxSteps := 4000000) (disch := first | omega | assumption) only [↓b_ix, ↓b_l3, ↓b_a3_0, ↓b_a3_1, ↓b_a3_2, ↓b_l4, ↓b_a4_0, ↓b_a4_1, ↓b_a4_2, ↓b_a4_3, ↓b_l129, ↓b_a129_0, ↓b_l130, ↓b_i130_1, ↓b_wi130_1, ↓b_l133, ↓b_a133_0, ↓b_a133_1, ↓b_i133_2, ↓b_wi133_2, ↓b_j133_3, ↓b_wj133_3, ↓b_i133_4, ↓b_wi133_4, ↓b_l134, ↓b_a134_0, ↓b_a134_1, ↓b_i134_2, ↓b_wi134_2, ↓b_i134_3, ↓b_wi134_3, ↓b_l135, ↓b_i135_1, ↓b_wi135_1, ↓b_l139, ↓b_a139_0, ↓b_a139_1, ↓b_a139_2, ↓b_a139_3, ↓b_a139_4, ↓b_a139_5, ↓b_a139_6, ↓b_a139_7, ↓b_a139_8, ↓b_a139_9, ↓b_a139_10, ↓b_a139_11, ↓b_a139_12, ↓b_a139_13, ↓b_a139_14, ↓b_i139_15, ↓b_wi139_15, ↓b_i139_16, ↓b_wi139_16, ↓b_i139_17, ↓b_wi139_17, ↓b_a139_18, ↓b_i139_19, ↓b_wi139_19, ↓b_i139_20, ↓b_wi139_20, ↓b_i139_21, ↓b_wi139_21, ↓b_l6, ↓b_i6, ↓b_wi6, ↓b_l140, ↓b_i140, ↓b_wi140, ↓b_l141, ↓b_i141, ↓b_wi141, ↓b_l142, ↓b_i142, ↓b_wi142, ↓b_l143, ↓b_i143, ↓b_wi143, ↓b_l144, ↓b_j144, ↓b_wj144, ↓b_l145, ↓b_j145, ↓b_wj145, ↓b_l146, ↓b_i146, ↓b_wi146, ↓b_l147, ↓b_i147, ↓b_wi147, ↓b_l148, ↓b_i148, ↓b_wi148, ↓b_l149, ↓b_i149, ↓b_wi149, ↓b_l150, ↓b_j150, ↓b_wj150, ↓b_l151, ↓b_i151, ↓b_wi151, ↓b_l152, ↓b_j152, ↓b_wj152, ↓b_l153, ↓b_i153, ↓b_wi153, ↓b_l154, ↓b_i154, ↓b_wi154, ↓b_l155, ↓b_j155, ↓b_wj155, ↓b_l156, ↓b_j156, ↓b_wj156, ↓b_l138, ↓b_j138, ↓b_wj138, ↓b_a5, ↓b_a13, ↓b_a44, ↓b_lA, ↓b_aA_0, ↓b_aA_1, ↓b_iA_2, ↓b_wiA_2, ↓b_iA_4, ↓b_wiA_4, ↓b_iA_5, ↓b_wiA_5, ↓b_iA_6, ↓b_wiA_6, ↓b_jA_3, ↓b_wjA_3, ↓b_lT, ↓b_lTc, ↓b_aT, ↓b_iT, ↓b_wiT, ↓b_iTc, ↓b_wiTc, ↓b_lW, ↓b_lWc, ↓b_aW, ↓b_iW, ↓b_wiW, ↓b_jWc, ↓b_wjWc, ↓b_rt, ↓b_ru, ↓b_wt, ↓b_wu, ↓b_0l, ↓b_0, ↓b_1, ↓b_2, m_tk, ↓reduceIte, cond_true, cond_false, Option.bind_some, y_Row_take, e_Row_take_0, e_Row_take_12, e_Row_take_13, e_Row_take_45, hm, nI_pos, nI_ltI, nI_1, hi, if_true, if_false]
  exact ih
theorem c_way {x y : Nat} (hd : 1 ≤ d) (hx : x < 7) (hy : y < 6) : am_Y d 62 [.ref 4, .int (nI x), .int (nI y)] (mM xs f g t u c s) = some (.inl (some (.ref (45 + 2 * (6 * x + y)))), mM xs f g t u c s) := by
  obtain ⟨d, rfl⟩ : ∃ e, d = e + 1 := ⟨d - 1, by omega⟩
  have e : nI x * 6 + nI y = nI (6 * x + y) := by rw [l_6, nI_mul, nI_add, Nat.mul_comm]
  simp (maxSteps := 4000000) (disch := first | omega | assumption) only [↓b_ix, ↓b_l3, ↓b_a3_0, ↓b_a3_1, ↓b_a3_2, ↓b_l4, ↓b_a4_0, ↓b_a4_1, ↓b_a4_2, ↓b_a4_3, ↓b_l129, ↓b_a129_0, ↓b_l130, ↓b_i130_1, ↓b_wi130_1, ↓b_l133, ↓b_a133_0, ↓b_a133_1, ↓b_i133_2, ↓b_wi133_2, ↓b_j133_3, ↓b_wj133_3, ↓b_i133_4, ↓b_wi133_4, ↓b_l134, ↓b_a134_0, ↓b_a134_1, ↓b_i134_2, ↓b_wi134_2, ↓b_i134_3, ↓b_wi134_3, ↓b_l135, ↓b_i135_1, ↓b_wi135_1, ↓b_l139, ↓b_a139_0, ↓b_a139_1, ↓b_a139_2, ↓b_a139_3, ↓b_a139_4, ↓b_a139_5, ↓b_a139_6, ↓b_a139_7, ↓b_a139_8, ↓b_a139_9, ↓b_a139_10, ↓b_a139_11, ↓b_a139_12, ↓b_a139_13, ↓b_a139_14, ↓b_i139_15, ↓b_wi139_15, ↓b_i139_16, ↓b_wi139_16, ↓b_i139_17, ↓b_wi139_17, ↓b_a139_18, ↓b_i139_19, ↓b_wi139_19, ↓b_i139_20, ↓b_wi139_20, ↓b_i139_21, ↓b_wi139_21, ↓b_l6, ↓b_i6, ↓b_wi6, ↓b_l140, ↓b_i140, ↓b_wi140, ↓b_l141, ↓b_i141, ↓b_wi141, ↓b_l142, ↓b_i142, ↓b_wi142, ↓b_l143, ↓b_i143, ↓b_wi143, ↓b_l144, ↓b_j144, ↓b_wj144, ↓b_l145, ↓b_j145, ↓b_wj145, ↓b_l146, ↓b_i146, ↓b_wi146, ↓b_l147, ↓b_i147, ↓b_wi147, ↓b_l148, ↓b_i148, ↓b_wi148, ↓b_l149, ↓b_i149, ↓b_wi149, ↓b_l150, ↓b_j150, ↓b_wj150, ↓b_l151, ↓b_i151, ↓b_wi151, ↓b_l152, ↓b_j152, ↓b_wj152, ↓b_l153, ↓b_i153, ↓b_wi153, ↓b_l154, ↓b_i154, ↓b_wi154, ↓b_l155, ↓b_j155, ↓b_wj155, ↓b_l156, ↓b_j156, ↓b_wj156, ↓b_l138, ↓b_j138, ↓b_wj138, ↓b_a5, ↓b_a13, ↓b_a44, ↓b_lA, ↓b_aA_0, ↓b_aA_1, ↓b_iA_2, ↓b_wiA_2, ↓b_iA_4, ↓b_wiA_4, ↓b_iA_5, ↓b_wiA_5, ↓b_iA_6, ↓b_wiA_6, ↓b_jA_3, ↓b_wjA_3, ↓b_lT, ↓b_lTc, ↓b_aT, ↓b_iT, ↓b_wiT, ↓b_iTc, ↓b_wiTc, ↓b_lW, ↓b_lWc, ↓b_aW, ↓b_iW, ↓b_wiW, ↓b_jWc, ↓b_wjWc, ↓b_rt, ↓b_ru, ↓b_wt, ↓b_wu, ↓b_0l, ↓b_0, ↓b_1, ↓b_2, m_tk, ↓reduceIte, cond_true, cond_false, Option.bind_some, y_World_way, e_World_way_0, e]
theorem c_wput {j : Nat} {x : sTm} (hd : 1 ≤ d) (h : cA f g S.1 S.2) (hb : bd S.1) (hj : j < 42) : ∃ f' g', am_Y d 31 [.ref (45 + 2 * j), .long (cTh x)] (mM xs f g t u c s) = some (.inl none, mM xs f' g' t u c s) ∧ cA f' g' (pPut S j x).1 (pPut S j x).2 ∧ fr f f' ∧ frg g g' := by
  have e := c_put (xs := xs) (g := g) (t := t) (u := u) (c := c) (s := s) (x := cTh x) hd (mW_w hj) (h.2.2.2.2.2.2.1 j hj) (hb.2.1 j hj)
  unfold pPut
  by_cases hn : S.1 6 j < 8
  · rw [if_pos hn, show 45 + 2 * j + 1 = 46 + 2 * j by omega] at e
    rw [if_pos hn]
    exact ⟨_, _, e, cA_wput h hj, fr_u (fr_r f) (by omega), frg_w (frg_r g) (by omega)⟩
  · rw [if_neg hn] at e ⊢
    exact ⟨_, _, e, h, fr_r f, frg_r g⟩
theorem c_mput {i : Nat} {x : sTm} (hd : 1 ≤ d) (h : cA f g S.1 S.2) (hi : i < 6) (hn : S.1 5 i < 6) : ∃ f' g', am_Y d 31 [.ref (17 + 5 * i), .long (cTh x)] (mM xs f g t u c s) = some (.inl none, mM xs f' g' t u c s) ∧ cA f' g' (aU S.1 5 i (S.1 5 i + 1)) (bU S.2 (1 + i) (S.1 5 i) x) ∧ fr f f' ∧ frg g g' := by
  have e := c_put (xs := xs) (g := g) (t := t) (u := u) (c := c) (s := s) (x := cTh x) hd (mW_m hi) (h.2.2.2.2.2.1 i hi) (by omega)
  rw [if_pos hn, show 17 + 5 * i + 1 = 18 + 5 * i by omega] at e
  exact ⟨_, _, e, cA_mput h hi, fr_u (fr_r f) (by omega), frg_w (frg_r g) (by omega)⟩
theorem c_finish {i why : Nat} (hd : 1 ≤ d) (h : cA f g S.1 S.2) (hi : i < 6) : ∃ f' g', am_Y d 2 [.ref (14 + 5 * i), .int (tolA why)] (mM xs f g t u c s) = some (.inl none, mM xs f' g' t u c s) ∧ cA f' g' (pEnd0 S i why).1 (pEnd0 S i why).2 ∧ fr f f' ∧ frg g g' := by
  obtain ⟨d, rfl⟩ : ∃ e, d = e + 1 := ⟨d - 1, by omega⟩
  refine ⟨m_u (m_u (m_u (m_u (m_u f (14 + 5 * i) 2 (nI 2)) (14 + 5 * i) 6 (tolA why)) (17 + 5 * i) 1 (nI 0)) (14 + 5 * i) 4 (nI 0)) (14 + 5 * i) 5 (nI 0), m_w g (14 + 5 * i) 3 (cTh (10, [])), ?_, ?_, ?_, ?_⟩
  · simp (maxSteps := 4000000) (disch := first | omega | assumption) only [↓b_ix, ↓b_l3, ↓b_a3_0, ↓b_a3_1, ↓b_a3_2, ↓b_l4, ↓b_a4_0, ↓b_a4_1, ↓b_a4_2, ↓b_a4_3, ↓b_l129, ↓b_a129_0, ↓b_l130, ↓b_i130_1, ↓b_wi130_1, ↓b_l133, ↓b_a133_0, ↓b_a133_1, ↓b_i133_2, ↓b_wi133_2, ↓b_j133_3, ↓b_wj133_3, ↓b_i133_4, ↓b_wi133_4, ↓b_l134, ↓b_a134_0, ↓b_a134_1, ↓b_i134_2, ↓b_wi134_2, ↓b_i134_3, ↓b_wi134_3, ↓b_l135, ↓b_i135_1, ↓b_wi135_1, ↓b_l139, ↓b_a139_0, ↓b_a139_1, ↓b_a139_2, ↓b_a139_3, ↓b_a139_4, ↓b_a139_5, ↓b_a139_6, ↓b_a139_7, ↓b_a139_8, ↓b_a139_9, ↓b_a139_10, ↓b_a139_11, ↓b_a139_12, ↓b_a139_13, ↓b_a139_14, ↓b_i139_15, ↓b_wi139_15, ↓b_i139_16, ↓b_wi139_16, ↓b_i139_17, ↓b_wi139_17, ↓b_a139_18, ↓b_i139_19, ↓b_wi139_19, ↓b_i139_20, ↓b_wi139_20, ↓b_i139_21, ↓b_wi139_21, ↓b_l6, ↓b_i6, ↓b_wi6, ↓b_l140, ↓b_i140, ↓b_wi140, ↓b_l141, ↓b_i141, ↓b_wi141, ↓b_l142, ↓b_i142, ↓b_wi142, ↓b_l143, ↓b_i143, ↓b_wi143, ↓b_l144, ↓b_j144, ↓b_wj144, ↓b_l145, ↓b_j145, ↓b_wj145, ↓b_l146, ↓b_i146, ↓b_wi146, ↓b_l147, ↓b_i147, ↓b_wi147, ↓b_l148, ↓b_i148, ↓b_wi148, ↓b_l149, ↓b_i149, ↓b_wi149, ↓b_l150, ↓b_j150, ↓b_wj150, ↓b_l151, ↓b_i151, ↓b_wi151, ↓b_l152, ↓b_j152, ↓b_wj152, ↓b_l153, ↓b_i153, ↓b_wi153, ↓b_l154, ↓b_i154, ↓b_wi154, ↓b_l155, ↓b_j155, ↓b_wj155, ↓b_l156, ↓b_j156, ↓b_wj156, ↓b_l138, ↓b_j138, ↓b_wj138, ↓b_a5, ↓b_a13, ↓b_a44, ↓b_lA, ↓b_aA_0, ↓b_aA_1, ↓b_iA_2, ↓b_wiA_2, ↓b_iA_4, ↓b_wiA_4, ↓b_iA_5, ↓b_wiA_5, ↓b_iA_6, ↓b_wiA_6, ↓b_jA_3, ↓b_wjA_3, ↓b_lT, ↓b_lTc, ↓b_aT, ↓b_iT, ↓b_wiT, ↓b_iTc, ↓b_wiTc, ↓b_lW, ↓b_lWc, ↓b_aW, ↓b_iW, ↓b_wiW, ↓b_jWc, ↓b_wjWc, ↓b_rt, ↓b_ru, ↓b_wt, ↓b_wu, ↓b_0l, ↓b_0, ↓b_1, ↓b_2, m_tk, ↓reduceIte, cond_true, cond_false, Option.bind_some, y_Actor_finish, e_Actor_finish_0, ↓b_wiW _ (mW_m hi), show am_ft 3 (.int 0) = true from rfl]
    rfl
  · exact cA_lk (cA_tr (cA_mc (cA_sa (cA_re (cA_st h hi) hi) hi) hi (Nat.zero_le _)) hi) hi
  · exact fr_u (fr_u (fr_u (fr_u (fr_u (fr_r f) (by omega)) (by omega)) (by omega)) (by omega)) (by omega)
  · exact frg_w (frg_r g) (by omega)
theorem c_signal {a : Nat} (hd : 2 ≤ d) (ha : a < 2013) {M : aM} : am_Y d 49 [.int (told a)] M = some (.inl (some (.long (cTh (9, [a])))), M) := by
  obtain ⟨d, rfl⟩ : ∃ e, d = e + 1 := ⟨d - 1, by omega⟩
  have h := tC_lt (tv_0 ha)
  rw [y_Term_signal, e_Term_signal_0, bJ (t_ofLeaf (show 1 ≤ d by omega) ha), j_62, lN_or]
  apply congrArg (fun n => (some (Sum.inl (some (Value.long (lN n))), M) : Option aR))
  show 4611686018427387904 ||| tC 0 [a] = 4611686018427387904 + tC 0 [a]
  rw [Nat.or_comm, show (4611686018427387904 : Nat) = 1 <<< 62 from rfl, or_shl (by omega)]; omega
theorem c_endL {i m why : Nat} (hd : 2 ≤ d) (hi : i < 6) (hm : m < 64) (hw : why < 2013) : ∀ q o {f : mF} {g : mG} {S : sS2}, q + o = 6 → cA f g S.1 S.2 → bd S.1 → ∃ f' g', am_X (am_Y d) k_World_end 23 [(0, .ref 4), (1, .int (nI i)), (2, .int (told why)), (3, .int (nI m)), (4, .int (nI o))] [] (mM xs f g t u c s) = some (.inl none, mM xs f' g' t u c s) ∧ cA f' g' (pEndL m i why q o S).1 (pEndL m i why q o S).2 ∧ fr f f' ∧ frg g g'
  | 0, o, f, g, S, hq, h, hb => by
    refine ⟨f, g, ?_, h, fr_r f, frg_r g⟩
    rw [e_World_end_23, l_6, if_pos (nI_le (by omega) (by omega)), e_World_end_79]
  | q + 1, o, f, g, S, hq, h, hb => by
    have e6 : ¬ nI 6 ≤ nI o := by rw [nI_leI (by omega) (by omega)]; omega
    have hb1 := bd_end1 (m := m) (why := why) hb hi (show o < 6 by omega)
    unfold pEndL
    by_cases hm0 : m / 2 ^ o % 2 = 0
    · have e : pEnd1 m i why o S = S := if_pos hm0
      rw [e]
      obtain ⟨f', g', e1, e2, e3, e4⟩ := c_endL hd hi hm hw q (o + 1) (by omega) h hb
      refine ⟨f', g', ?_, e2, e3, e4⟩
      rw [← e1, e_World_end_23, l_6, if_neg e6, if_pos ((bt_0 m hm o (by omega)).mpr hm0), e_World_end_73, nI_1]
    · have e : pEnd1 m i why o S = _ := if_neg hm0
      rw [e] at hb1 ⊢
      obtain ⟨f1, g1, p1, p2, p3, p4⟩ := c_wput (xs := xs) (t := t) (u := u) (c := c) (s := s) (x := (9, [why])) (j := 6 * i + o) (show 1 ≤ d by omega) h hb (by omega)
      have hl := (bd_put hb (6 * i + o) (9, [why])).1 o (by omega)
      obtain ⟨f', g', e1, e2, e3, e4⟩ := c_endL hd hi hm hw q (o + 1) (by omega) (cA_lk (v := clr ((pPut S (6 * i + o) (9, [why])).1 4 o) i) p2 (show o < 6 by omega)) hb1
      refine ⟨f', g', ?_, e2, fr_t p3 (fr_t (fr_u (fr_r f1) (by omega)) e3), frg_t p4 e4⟩
      have ho : o < 6 := by omega
      have hf1 : f1 (14 + 5 * o) 5 = nI ((pPut S (6 * i + o) (9, [why])).1 4 o) := p2.2.2.2.2.1 o ho
      rw [← e1, e_World_end_23, l_6, if_neg e6, if_neg (fun hh => hm0 ((bt_0 m hm o (by omega)).mp hh))]
      simp (maxSteps := 4000000) (disch := first | omega | assumption) only [↓b_ix, ↓b_l3, ↓b_a3_0, ↓b_a3_1, ↓b_a3_2, ↓b_l4, ↓b_a4_0, ↓b_a4_1, ↓b_a4_2, ↓b_a4_3, ↓b_l129, ↓b_a129_0, ↓b_l130, ↓b_i130_1, ↓b_wi130_1, ↓b_l133, ↓b_a133_0, ↓b_a133_1, ↓b_i133_2, ↓b_wi133_2, ↓b_j133_3, ↓b_wj133_3, ↓b_i133_4, ↓b_wi133_4, ↓b_l134, ↓b_a134_0, ↓b_a134_1, ↓b_i134_2, ↓b_wi134_2, ↓b_i134_3, ↓b_wi134_3, ↓b_l135, ↓b_i135_1, ↓b_wi135_1, ↓b_l139, ↓b_a139_0, ↓b_a139_1, ↓b_a139_2, ↓b_a139_3, ↓b_a139_4, ↓b_a139_5, ↓b_a139_6, ↓b_a139_7, ↓b_a139_8, ↓b_a139_9, ↓b_a139_10, ↓b_a139_11, ↓b_a139_12, ↓b_a139_13, ↓b_a139_14, ↓b_i139_15, ↓b_wi139_15, ↓b_i139_16, ↓b_wi139_16, ↓b_i139_17, ↓b_wi139_17, ↓b_a139_18, ↓b_i139_19, ↓b_wi139_19, ↓b_i139_20, ↓b_wi139_20, ↓b_i139_21, ↓b_wi139_21, ↓b_l6, ↓b_i6, ↓b_wi6, ↓b_l140, ↓b_i140, ↓b_wi140, ↓b_l141, ↓b_i141, ↓b_wi141, ↓b_l142, ↓b_i142, ↓b_wi142, ↓b_l143, ↓b_i143, ↓b_wi143, ↓b_l144, ↓b_j144, ↓b_wj144, ↓b_l145, ↓b_j145, ↓b_wj145, ↓b_l146, ↓b_i146, ↓b_wi146, ↓b_l147, ↓b_i147, ↓b_wi147, ↓b_l148, ↓b_i148, ↓b_wi148, ↓b_l149, ↓b_i149, ↓b_wi149, ↓b_l150, ↓b_j150, ↓b_wj150, ↓b_l151, ↓b_i151, ↓b_wi151, ↓b_l152, ↓b_j152, ↓b_wj152, ↓b_l153, ↓b_i153, ↓b_wi153, ↓b_l154, ↓b_i154, ↓b_wi154, ↓b_l155, ↓b_j155, ↓b_wj155, ↓b_l156, ↓b_j156, ↓b_wj156, ↓b_l138, ↓b_j138, ↓b_wj138, ↓b_a5, ↓b_a13, ↓b_a44, ↓b_lA, ↓b_aA_0, ↓b_aA_1, ↓b_iA_2, ↓b_wiA_2, ↓b_iA_4, ↓b_wiA_4, ↓b_iA_5, ↓b_wiA_5, ↓b_iA_6, ↓b_wiA_6, ↓b_jA_3, ↓b_wjA_3, ↓b_lT, ↓b_lTc, ↓b_aT, ↓b_iT, ↓b_wiT, ↓b_iTc, ↓b_wiTc, ↓b_lW, ↓b_lWc, ↓b_aW, ↓b_iW, ↓b_wiW, ↓b_jWc, ↓b_wjWc, ↓b_rt, ↓b_ru, ↓b_wt, ↓b_wu, ↓b_0l, ↓b_0, ↓b_1, ↓b_2, m_tk, ↓reduceIte, cond_true, cond_false, Option.bind_some, e_World_end_0, e_World_end_73, e_World_end_79, ↓bA (c_way (show 1 ≤ d by omega) (show i < 7 by omega) ho), ↓bJ (c_signal (show 2 ≤ d by omega) hw), ↓bV p1, ↓b_lW _ (mW_w (show 6 * i + o < 42 by omega)), hf1, bt_c _ hl.2.2.1 i hi, nI_1]
theorem c_end {i why : Nat} (hd : 3 ≤ d) (h : cA f g S.1 S.2) (hb : bd S.1) (hi : i < 6) (hw : why < 2013) : ∃ f' g', am_Y d 63 [.ref 4, .int (nI i), .int (told why)] (mM xs f g t u c s) = some (.inl none, mM xs f' g' t u c s) ∧ cA f' g' (pEnd S i why).1 (pEnd S i why).2 ∧ fr f f' ∧ frg g g' := by
  obtain ⟨d, rfl⟩ : ∃ e, d = e + 1 := ⟨d - 1, by omega⟩
  obtain ⟨f1, g1, p1, p2, p3, p4⟩ := c_finish (xs := xs) (t := t) (u := u) (c := c) (s := s) (why := why) (show 1 ≤ d by omega) h hi
  rw [show tolA why = told why from if_pos hw] at p1
  obtain ⟨f', g', e1, e2, e3, e4⟩ := c_endL (xs := xs) (t := t) (u := u) (c := c) (s := s) (show 2 ≤ d by omega) hi (hb.1 i hi).2.2.1 hw 6 0 rfl p2 (bd_end0 hb)
  refine ⟨f', g', ?_, e2, fr_t p3 e3, frg_t p4 e4⟩
  have hl : f (14 + 5 * i) 5 = nI (S.1 4 i) := h.2.2.2.2.1 i hi
  rw [← e1]
  simp (maxSteps := 4000000) (disch := first | omega | assumption) only [↓b_ix, ↓b_l3, ↓b_a3_0, ↓b_a3_1, ↓b_a3_2, ↓b_l4, ↓b_a4_0, ↓b_a4_1, ↓b_a4_2, ↓b_a4_3, ↓b_l129, ↓b_a129_0, ↓b_l130, ↓b_i130_1, ↓b_wi130_1, ↓b_l133, ↓b_a133_0, ↓b_a133_1, ↓b_i133_2, ↓b_wi133_2, ↓b_j133_3, ↓b_wj133_3, ↓b_i133_4, ↓b_wi133_4, ↓b_l134, ↓b_a134_0, ↓b_a134_1, ↓b_i134_2, ↓b_wi134_2, ↓b_i134_3, ↓b_wi134_3, ↓b_l135, ↓b_i135_1, ↓b_wi135_1, ↓b_l139, ↓b_a139_0, ↓b_a139_1, ↓b_a139_2, ↓b_a139_3, ↓b_a139_4, ↓b_a139_5, ↓b_a139_6, ↓b_a139_7, ↓b_a139_8, ↓b_a139_9, ↓b_a139_10, ↓b_a139_11, ↓b_a139_12, ↓b_a139_13, ↓b_a139_14, ↓b_i139_15, ↓b_wi139_15, ↓b_i139_16, ↓b_wi139_16, ↓b_i139_17, ↓b_wi139_17, ↓b_a139_18, ↓b_i139_19, ↓b_wi139_19, ↓b_i139_20, ↓b_wi139_20, ↓b_i139_21, ↓b_wi139_21, ↓b_l6, ↓b_i6, ↓b_wi6, ↓b_l140, ↓b_i140, ↓b_wi140, ↓b_l141, ↓b_i141, ↓b_wi141, ↓b_l142, ↓b_i142, ↓b_wi142, ↓b_l143, ↓b_i143, ↓b_wi143, ↓b_l144, ↓b_j144, ↓b_wj144, ↓b_l145, ↓b_j145, ↓b_wj145, ↓b_l146, ↓b_i146, ↓b_wi146, ↓b_l147, ↓b_i147, ↓b_wi147, ↓b_l148, ↓b_i148, ↓b_wi148, ↓b_l149, ↓b_i149, ↓b_wi149, ↓b_l150, ↓b_j150, ↓b_wj150, ↓b_l151, ↓b_i151, ↓b_wi151, ↓b_l152, ↓b_j152, ↓b_wj152, ↓b_l153, ↓b_i153, ↓b_wi153, ↓b_l154, ↓b_i154, ↓b_wi154, ↓b_l155, ↓b_j155, ↓b_wj155, ↓b_l156, ↓b_j156, ↓b_wj156, ↓b_l138, ↓b_j138, ↓b_wj138, ↓b_a5, ↓b_a13, ↓b_a44, ↓b_lA, ↓b_aA_0, ↓b_aA_1, ↓b_iA_2, ↓b_wiA_2, ↓b_iA_4, ↓b_wiA_4, ↓b_iA_5, ↓b_wiA_5, ↓b_iA_6, ↓b_wiA_6, ↓b_jA_3, ↓b_wjA_3, ↓b_lT, ↓b_lTc, ↓b_aT, ↓b_iT, ↓b_wiT, ↓b_iTc, ↓b_wiTc, ↓b_lW, ↓b_lWc, ↓b_aW, ↓b_iW, ↓b_wiW, ↓b_jWc, ↓b_wjWc, ↓b_rt, ↓b_ru, ↓b_wt, ↓b_wu, ↓b_0l, ↓b_0, ↓b_1, ↓b_2, m_tk, ↓reduceIte, cond_true, cond_false, Option.bind_some, y_World_end, e_World_end_0, e_World_end_73, e_World_end_79, hl, ↓bV p1]
  rfl
theorem c_link {x y : Nat} (hd : 1 ≤ d) (h : cA f g S.1 S.2) (hb : bd S.1) (hx : x < 6) (hy : y < 6) : ∃ f', am_Y d 64 [.ref 4, .int (nI x), .int (nI y)] (mM xs f g t u c s) = some (.inl none, mM xs f' g t u c s) ∧ cA f' g (pLink S x y).1 (pLink S x y).2 ∧ fr f f' := by
  obtain ⟨d, rfl⟩ : ∃ e, d = e + 1 := ⟨d - 1, by omega⟩
  have h1 := (hb.1 x hx).2.2.1
  have h2 := (hb.1 y hy).1
  have e1 : f (14 + 5 * y) 2 = nI (S.1 1 y) := h.2.1 y hy
  have e2 : f (14 + 5 * x) 5 = nI (S.1 4 x) := h.2.2.2.2.1 x hx
  unfold pLink
  by_cases hxy : x = y
  · rw [if_pos (.inl hxy)]
    refine ⟨f, ?_, h, fr_r f⟩
    simp (maxSteps := 4000000) (disch := first | omega | assumption) only [↓b_ix, ↓b_l3, ↓b_a3_0, ↓b_a3_1, ↓b_a3_2, ↓b_l4, ↓b_a4_0, ↓b_a4_1, ↓b_a4_2, ↓b_a4_3, ↓b_l129, ↓b_a129_0, ↓b_l130, ↓b_i130_1, ↓b_wi130_1, ↓b_l133, ↓b_a133_0, ↓b_a133_1, ↓b_i133_2, ↓b_wi133_2, ↓b_j133_3, ↓b_wj133_3, ↓b_i133_4, ↓b_wi133_4, ↓b_l134, ↓b_a134_0, ↓b_a134_1, ↓b_i134_2, ↓b_wi134_2, ↓b_i134_3, ↓b_wi134_3, ↓b_l135, ↓b_i135_1, ↓b_wi135_1, ↓b_l139, ↓b_a139_0, ↓b_a139_1, ↓b_a139_2, ↓b_a139_3, ↓b_a139_4, ↓b_a139_5, ↓b_a139_6, ↓b_a139_7, ↓b_a139_8, ↓b_a139_9, ↓b_a139_10, ↓b_a139_11, ↓b_a139_12, ↓b_a139_13, ↓b_a139_14, ↓b_i139_15, ↓b_wi139_15, ↓b_i139_16, ↓b_wi139_16, ↓b_i139_17, ↓b_wi139_17, ↓b_a139_18, ↓b_i139_19, ↓b_wi139_19, ↓b_i139_20, ↓b_wi139_20, ↓b_i139_21, ↓b_wi139_21, ↓b_l6, ↓b_i6, ↓b_wi6, ↓b_l140, ↓b_i140, ↓b_wi140, ↓b_l141, ↓b_i141, ↓b_wi141, ↓b_l142, ↓b_i142, ↓b_wi142, ↓b_l143, ↓b_i143, ↓b_wi143, ↓b_l144, ↓b_j144, ↓b_wj144, ↓b_l145, ↓b_j145, ↓b_wj145, ↓b_l146, ↓b_i146, ↓b_wi146, ↓b_l147, ↓b_i147, ↓b_wi147, ↓b_l148, ↓b_i148, ↓b_wi148, ↓b_l149, ↓b_i149, ↓b_wi149, ↓b_l150, ↓b_j150, ↓b_wj150, ↓b_l151, ↓b_i151, ↓b_wi151, ↓b_l152, ↓b_j152, ↓b_wj152, ↓b_l153, ↓b_i153, ↓b_wi153, ↓b_l154, ↓b_i154, ↓b_wi154, ↓b_l155, ↓b_j155, ↓b_wj155, ↓b_l156, ↓b_j156, ↓b_wj156, ↓b_l138, ↓b_j138, ↓b_wj138, ↓b_a5, ↓b_a13, ↓b_a44, ↓b_lA, ↓b_aA_0, ↓b_aA_1, ↓b_iA_2, ↓b_wiA_2, ↓b_iA_4, ↓b_wiA_4, ↓b_iA_5, ↓b_wiA_5, ↓b_iA_6, ↓b_wiA_6, ↓b_jA_3, ↓b_wjA_3, ↓b_lT, ↓b_lTc, ↓b_aT, ↓b_iT, ↓b_wiT, ↓b_iTc, ↓b_wiTc, ↓b_lW, ↓b_lWc, ↓b_aW, ↓b_iW, ↓b_wiW, ↓b_jWc, ↓b_wjWc, ↓b_rt, ↓b_ru, ↓b_wt, ↓b_wu, ↓b_0l, ↓b_0, ↓b_1, ↓b_2, m_tk, ↓reduceIte, cond_true, cond_false, Option.bind_some, y_World_link, e_World_link_0, e_World_link_52, nI_eq, hxy, if_true]
  · by_cases ha : S.1 1 y = 1
    · rw [if_neg (by omega)]
      have hc := cA_lk (i := x) (v := S.1 4 x ||| 2 ^ y) h hx
      have hb1 : bd (aU S.1 4 x (S.1 4 x ||| 2 ^ y)) := bd_u hb ⟨by omega, by omega, fun _ => (bt_l _ h1 y hy).1, by omega, by omega, by omega, by omega⟩
      have e3 := hc.2.2.2.2.1 y hy
      refine ⟨_, ?_, cA_lk (i := y) (v := (aU S.1 4 x (S.1 4 x ||| 2 ^ y)) 4 y ||| 2 ^ x) hc hy, fr_u (fr_u (fr_r f) (by omega)) (by omega)⟩
      simp (maxSteps := 4000000) (disch := first | omega | assumption) only [↓b_ix, ↓b_l3, ↓b_a3_0, ↓b_a3_1, ↓b_a3_2, ↓b_l4, ↓b_a4_0, ↓b_a4_1, ↓b_a4_2, ↓b_a4_3, ↓b_l129, ↓b_a129_0, ↓b_l130, ↓b_i130_1, ↓b_wi130_1, ↓b_l133, ↓b_a133_0, ↓b_a133_1, ↓b_i133_2, ↓b_wi133_2, ↓b_j133_3, ↓b_wj133_3, ↓b_i133_4, ↓b_wi133_4, ↓b_l134, ↓b_a134_0, ↓b_a134_1, ↓b_i134_2, ↓b_wi134_2, ↓b_i134_3, ↓b_wi134_3, ↓b_l135, ↓b_i135_1, ↓b_wi135_1, ↓b_l139, ↓b_a139_0, ↓b_a139_1, ↓b_a139_2, ↓b_a139_3, ↓b_a139_4, ↓b_a139_5, ↓b_a139_6, ↓b_a139_7, ↓b_a139_8, ↓b_a139_9, ↓b_a139_10, ↓b_a139_11, ↓b_a139_12, ↓b_a139_13, ↓b_a139_14, ↓b_i139_15, ↓b_wi139_15, ↓b_i139_16, ↓b_wi139_16, ↓b_i139_17, ↓b_wi139_17, ↓b_a139_18, ↓b_i139_19, ↓b_wi139_19, ↓b_i139_20, ↓b_wi139_20, ↓b_i139_21, ↓b_wi139_21, ↓b_l6, ↓b_i6, ↓b_wi6, ↓b_l140, ↓b_i140, ↓b_wi140, ↓b_l141, ↓b_i141, ↓b_wi141, ↓b_l142, ↓b_i142, ↓b_wi142, ↓b_l143, ↓b_i143, ↓b_wi143, ↓b_l144, ↓b_j144, ↓b_wj144, ↓b_l145, ↓b_j145, ↓b_wj145, ↓b_l146, ↓b_i146, ↓b_wi146, ↓b_l147, ↓b_i147, ↓b_wi147, ↓b_l148, ↓b_i148, ↓b_wi148, ↓b_l149, ↓b_i149, ↓b_wi149, ↓b_l150, ↓b_j150, ↓b_wj150, ↓b_l151, ↓b_i151, ↓b_wi151, ↓b_l152, ↓b_j152, ↓b_wj152, ↓b_l153, ↓b_i153, ↓b_wi153, ↓b_l154, ↓b_i154, ↓b_wi154, ↓b_l155, ↓b_j155, ↓b_wj155, ↓b_l156, ↓b_j156, ↓b_wj156, ↓b_l138, ↓b_j138, ↓b_wj138, ↓b_a5, ↓b_a13, ↓b_a44, ↓b_lA, ↓b_aA_0, ↓b_aA_1, ↓b_iA_2, ↓b_wiA_2, ↓b_iA_4, ↓b_wiA_4, ↓b_iA_5, ↓b_wiA_5, ↓b_iA_6, ↓b_wiA_6, ↓b_jA_3, ↓b_wjA_3, ↓b_lT, ↓b_lTc, ↓b_aT, ↓b_iT, ↓b_wiT, ↓b_iTc, ↓b_wiTc, ↓b_lW, ↓b_lWc, ↓b_aW, ↓b_iW, ↓b_wiW, ↓b_jWc, ↓b_wjWc, ↓b_rt, ↓b_ru, ↓b_wt, ↓b_wu, ↓b_0l, ↓b_0, ↓b_1, ↓b_2, m_tk, ↓reduceIte, cond_true, cond_false, Option.bind_some, y_World_link, e_World_link_0, e_World_link_52, nI_eq, hxy, e1, ha, show nI 1 = 1 from rfl, e2, bt_o _ h1 y hy, e3, bt_o _ (hb1.1 y hy).2.2.1 x hx, not_true, if_false]
    · rw [if_pos (.inr ha)]
      refine ⟨f, ?_, h, fr_r f⟩
      have : ¬ nI (S.1 1 y) = 1 := by rw [l_1, nI_eq (by omega) (by omega)]; exact ha
      simp (maxSteps := 4000000) (disch := first | omega | assumption) only [↓b_ix, ↓b_l3, ↓b_a3_0, ↓b_a3_1, ↓b_a3_2, ↓b_l4, ↓b_a4_0, ↓b_a4_1, ↓b_a4_2, ↓b_a4_3, ↓b_l129, ↓b_a129_0, ↓b_l130, ↓b_i130_1, ↓b_wi130_1, ↓b_l133, ↓b_a133_0, ↓b_a133_1, ↓b_i133_2, ↓b_wi133_2, ↓b_j133_3, ↓b_wj133_3, ↓b_i133_4, ↓b_wi133_4, ↓b_l134, ↓b_a134_0, ↓b_a134_1, ↓b_i134_2, ↓b_wi134_2, ↓b_i134_3, ↓b_wi134_3, ↓b_l135, ↓b_i135_1, ↓b_wi135_1, ↓b_l139, ↓b_a139_0, ↓b_a139_1, ↓b_a139_2, ↓b_a139_3, ↓b_a139_4, ↓b_a139_5, ↓b_a139_6, ↓b_a139_7, ↓b_a139_8, ↓b_a139_9, ↓b_a139_10, ↓b_a139_11, ↓b_a139_12, ↓b_a139_13, ↓b_a139_14, ↓b_i139_15, ↓b_wi139_15, ↓b_i139_16, ↓b_wi139_16, ↓b_i139_17, ↓b_wi139_17, ↓b_a139_18, ↓b_i139_19, ↓b_wi139_19, ↓b_i139_20, ↓b_wi139_20, ↓b_i139_21, ↓b_wi139_21, ↓b_l6, ↓b_i6, ↓b_wi6, ↓b_l140, ↓b_i140, ↓b_wi140, ↓b_l141, ↓b_i141, ↓b_wi141, ↓b_l142, ↓b_i142, ↓b_wi142, ↓b_l143, ↓b_i143, ↓b_wi143, ↓b_l144, ↓b_j144, ↓b_wj144, ↓b_l145, ↓b_j145, ↓b_wj145, ↓b_l146, ↓b_i146, ↓b_wi146, ↓b_l147, ↓b_i147, ↓b_wi147, ↓b_l148, ↓b_i148, ↓b_wi148, ↓b_l149, ↓b_i149, ↓b_wi149, ↓b_l150, ↓b_j150, ↓b_wj150, ↓b_l151, ↓b_i151, ↓b_wi151, ↓b_l152, ↓b_j152, ↓b_wj152, ↓b_l153, ↓b_i153, ↓b_wi153, ↓b_l154, ↓b_i154, ↓b_wi154, ↓b_l155, ↓b_j155, ↓b_wj155, ↓b_l156, ↓b_j156, ↓b_wj156, ↓b_l138, ↓b_j138, ↓b_wj138, ↓b_a5, ↓b_a13, ↓b_a44, ↓b_lA, ↓b_aA_0, ↓b_aA_1, ↓b_iA_2, ↓b_wiA_2, ↓b_iA_4, ↓b_wiA_4, ↓b_iA_5, ↓b_wiA_5, ↓b_iA_6, ↓b_wiA_6, ↓b_jA_3, ↓b_wjA_3, ↓b_lT, ↓b_lTc, ↓b_aT, ↓b_iT, ↓b_wiT, ↓b_iTc, ↓b_wiTc, ↓b_lW, ↓b_lWc, ↓b_aW, ↓b_iW, ↓b_wiW, ↓b_jWc, ↓b_wjWc, ↓b_rt, ↓b_ru, ↓b_wt, ↓b_wu, ↓b_0l, ↓b_0, ↓b_1, ↓b_2, m_tk, ↓reduceIte, cond_true, cond_false, Option.bind_some, y_World_link, e_World_link_0, e_World_link_52, nI_eq, hxy, e1, this, not_false_eq_true, if_true, if_false]
end CW
