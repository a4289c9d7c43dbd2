/-! THE GRAMMAR OF THE CLASS, as functions of the signs -/
def isV (c : Int32) : Prop := (65 ≤ c ∧ c ≤ 69) ∨ c = 83
def isD (c : Int32) : Prop := 48 ≤ c ∧ c ≤ 57
def isA (c : Int32) : Prop := 97 ≤ c ∧ c ≤ 104
section GR
variable (w : Nat → Int32) (n : Nat)
def pq (r : Bool × Nat) (k : Nat → Bool × Nat) : Bool × Nat := if r.1 = true then k r.2 else r
noncomputable def pVar (i : Nat) : Bool × Nat := @ite _ (i < n ∧ isV (w i)) (Classical.propDecidable _) (true, i + 1) (false, i)
noncomputable def pSimple (i : Nat) : Bool × Nat := if i < n ∧ w i = 39 then pq (pf w n 48 57 (i + 1)) (fun j => pf w n 48 57 j) else @ite _ (i < n ∧ (isD (w i) ∨ isA (w i) ∨ isV (w i))) (Classical.propDecidable _) (true, i + 1) (false, i)
noncomputable def pPat : Nat → Nat → Bool × Nat
  | 0, i => if i < n ∧ w i = 40 then (false, i) else if i < n ∧ w i = 95 then (true, i + 1) else pSimple w n i
  | k + 1, i => if i < n ∧ w i = 40 then pq (pPat k (i + 1)) (fun j => pq (pa w n 44 j) fun j => pq (pPat k j) fun j => pa w n 41 j) else if i < n ∧ w i = 95 then (true, i + 1) else pSimple w n i
noncomputable def pExp : Nat → Nat → Bool × Nat
  | 0, i => if i < n ∧ w i = 40 then (false, i) else if i < n ∧ (w i = 43 ∨ w i = 45 ∨ w i = 47) then (false, i) else if i < n ∧ w i = 35 then (true, i + 1) else pSimple w n i
  | k + 1, i => if i < n ∧ w i = 40 then pq (pExp k (i + 1)) (fun j => pq (pa w n 44 j) fun j => pq (pExp k j) fun j => pa w n 41 j) else if i < n ∧ (w i = 43 ∨ w i = 45 ∨ w i = 47) then pq (pExp k (i + 1)) (fun j => pExp k j) else if i < n ∧ w i = 35 then (true, i + 1) else pSimple w n i
def pRel (i : Nat) : Bool × Nat := if i < n ∧ (w i = 60 ∨ w i = 61) then (true, i + 1) else (false, i)
noncomputable def pGuard (i : Nat) : Bool × Nat := if i < n ∧ w i = 63 then pq (pExp w n 4 (i + 1)) (fun j => pq (pRel w n j) fun j => pExp w n 4 j) else (true, i)
noncomputable def pAct (i : Nat) : Bool × Nat := if i < n ∧ w i = 33 then pq (pExp w n 4 (i + 1)) (fun j => pExp w n 4 j) else if i < n ∧ (w i = 126 ∨ w i = 38 ∨ w i = 36) then pExp w n 4 (i + 1) else if i < n ∧ w i = 64 then pq (pf w n 48 50 (i + 1)) (fun j => pVar w n j) else if i < n ∧ w i = 42 then pf w n 48 49 (i + 1) else (false, i)
noncomputable def pActs : Nat → Nat → Bool × Nat
  | 0, i => (false, i)
  | m + 1, i => if i < n ∧ w i = 59 then (true, i + 1) else pq (pAct w n i) (fun j => pActs m j)
noncomputable def pClause (i : Nat) : Bool × Nat := pq (pPat w n 4 i) fun j => pq (pGuard w n j) fun j => pq (pa w n 58 j) fun j => pActs w n 60 j
noncomputable def pAll : Nat → Nat → Option Nat
  | 0, _ => none
  | m + 1, i => if n ≤ i then none else if (pClause w n i).1 = true then pAll m (pClause w n i).2 else some (pClause w n i).2
end GR
section GRL
variable {w : Nat → Int32} {n : Nat}
theorem pq_le {r : Bool × Nat} {k : Nat → Bool × Nat} (h : r.2 ≤ n) (hk : ∀ j, j ≤ n → (k j).2 ≤ n) : (pq r k).2 ≤ n := by
  unfold pq; split
  · exact hk _ h
  · exact h
theorem pa_le {x : Int32} {i : Nat} (h : i ≤ n) : (pa w n x i).2 ≤ n := by unfold pa; split <;> (try simp only) <;> omega
theorem pf_le {x y : Int32} {i : Nat} (h : i ≤ n) : (pf w n x y i).2 ≤ n := by unfold pf; split <;> (try simp only) <;> omega
theorem pVar_le {i : Nat} (h : i ≤ n) : (pVar w n i).2 ≤ n := by unfold pVar; split <;> (try simp only) <;> omega
theorem pSimple_le {i : Nat} (h : i ≤ n) : (pSimple w n i).2 ≤ n := by
  unfold pSimple; split
  · exact pq_le (pf_le (by omega)) fun j hj => pf_le hj
  · split <;> (try simp only) <;> omega
theorem pPat_le : ∀ (k : Nat) {i : Nat}, i ≤ n → (pPat w n k i).2 ≤ n
  | 0, i, h => by
    unfold pPat; split
    · exact h
    · split
      · simp only; omega
      · exact pSimple_le h
  | k + 1, i, h => by
    unfold pPat; split
    · exact pq_le (pPat_le k (by omega)) fun j hj => pq_le (pa_le hj) fun j hj => pq_le (pPat_le k hj) fun j hj => pa_le hj
    · split
      · simp only; omega
      · exact pSimple_le h
theorem pExp_le : ∀ (k : Nat) {i : Nat}, i ≤ n → (pExp w n k i).2 ≤ n
  | 0, i, h => by
    unfold pExp; split
    · exact h
    · split
      · exact h
      · split
        · simp only; omega
        · exact pSimple_le h
  | k + 1, i, h => by
    unfold pExp; split
    · exact pq_le (pExp_le k (by omega)) fun j hj => pq_le (pa_le hj) fun j hj => pq_le (pExp_le k hj) fun j hj => pa_le hj
    · split
      · exact pq_le (pExp_le k (by omega)) fun j hj => pExp_le k hj
      · split
        · simp only; omega
        · exact pSimple_le h
theorem pRel_le {i : Nat} (h : i ≤ n) : (pRel w n i).2 ≤ n := by unfold pRel; split <;> (try simp only) <;> omega
theorem pGuard_le {i : Nat} (h : i ≤ n) : (pGuard w n i).2 ≤ n := by
  unfold pGuard; split
  · exact pq_le (pExp_le 4 (by omega)) fun j hj => pq_le (pRel_le hj) fun j hj => pExp_le 4 hj
  · exact h
theorem pAct_le {i : Nat} (h : i ≤ n) : (pAct w n i).2 ≤ n := by
  unfold pAct; split
  · exact pq_le (pExp_le 4 (by omega)) fun j hj => pExp_le 4 hj
  · split
    · exact pExp_le 4 (by omega)
    · split
      · exact pq_le (pf_le (by omega)) fun j hj => pVar_le hj
      · split
        · exact pf_le (by omega)
        · exact h
theorem pActs_le : ∀ (m : Nat) {i : Nat}, i ≤ n → (pActs w n m i).2 ≤ n
  | 0, i, h => h
  | m + 1, i, h => by
    unfold pActs; split
    · simp only; omega
    · exact pq_le (pAct_le h) fun j hj => pActs_le m hj
theorem pClause_le {i : Nat} (h : i ≤ n) : (pClause w n i).2 ≤ n := pq_le (pPat_le 4 h) fun _ hj => pq_le (pGuard_le hj) fun _ hj => pq_le (pa_le hj) fun _ hj => pActs_le 60 hj
theorem m_b0 (b : Bool) : (m_b b = 0) = (b = false) := by cases b <;> simp [m_b]
theorem pa_t {x : Int32} {i : Nat} (h : i < n ∧ w i = x) : pa w n x i = (true, i + 1) := if_pos h
theorem pa_f {x : Int32} {i : Nat} (h : ¬ (i < n ∧ w i = x)) : pa w n x i = (false, i) := if_neg h
theorem px_iff {x : Int32} {i : Nat} (hx : x ≠ 0) : px w n i = x ↔ i < n ∧ w i = x := by
  unfold px; split
  · rename_i h; simp [h]
  · rename_i h; simp [h]; exact fun e => hx e.symm
end GRL
section GRC
variable {xs : List Int32} {f : mF} {g : mG} {t u c s d i n : Nat}
theorem c_readVariable (hd : 2 ≤ d) (hT : mX f t n) : am_Y d 17 [.ref 129] (mM xs (m_u f 130 1 (nP (i))) g t u c s) = some (.inl (some (.int (m_b (pVar (f (t + 1)) n i).1))), (mM xs (m_u f 130 1 (nP ((pVar (f (t + 1)) n i).2))) g t u c s)) := by
  obtain ⟨d, rfl⟩ : ∃ e, d = e + 1 := ⟨d - 1, by omega⟩
  simp (disch := first | omega | assumption) only [m_l3, m_a3_0, m_a3_1, m_a3_2, m_l4, m_a4_0, m_a4_1, m_a4_2, m_a4_3, m_l129, m_a129_0, m_l130, m_i130_1, m_wi130_1, m_l133, m_a133_0, m_a133_1, m_i133_2, m_wi133_2, m_j133_3, m_wj133_3, m_i133_4, m_wi133_4, m_l134, m_a134_0, m_a134_1, m_i134_2, m_wi134_2, m_i134_3, m_wi134_3, m_l135, m_i135_1, m_wi135_1, m_l139, m_a139_0, m_a139_1, m_a139_2, m_a139_3, m_a139_4, m_a139_5, m_a139_6, m_a139_7, m_a139_8, m_a139_9, m_a139_10, m_a139_11, m_a139_12, m_a139_13, m_a139_14, m_i139_15, m_wi139_15, m_i139_16, m_wi139_16, m_i139_17, m_wi139_17, m_a139_18, m_i139_19, m_wi139_19, m_i139_20, m_wi139_20, m_i139_21, m_wi139_21, m_rt, m_ru, m_wt, m_wu, m_tk, m_l6, m_i6, m_wi6, m_l140, m_i140, m_wi140, m_l141, m_i141, m_wi141, m_l142, m_i142, m_wi142, m_l143, m_i143, m_wi143, m_l144, m_j144, m_wj144, m_l145, m_j145, m_wj145, m_l146, m_i146, m_wi146, m_l147, m_i147, m_wi147, m_l148, m_i148, m_wi148, m_l149, m_i149, m_wi149, m_l150, m_j150, m_wj150, m_l151, m_i151, m_wi151, m_l152, m_j152, m_wj152, m_l153, m_i153, m_wi153, m_l154, m_i154, m_wi154, m_l155, m_j155, m_wj155, m_l156, m_j156, m_wj156, m_l138, m_j138, m_wj138, m_a5, m_a13, m_a44, m_lA, m_aA_0, m_aA_1, m_iA_2, m_wiA_2, m_iA_4, m_wiA_4, m_iA_5, m_wiA_5, m_iA_6, m_wiA_6, m_jA_3, m_wjA_3, m_lT, m_lTc, m_aT, m_iT, m_wiT, m_iTc, m_wiTc, m_lW, m_lWc, m_aW, m_iW, m_wiW, m_jWc, m_wjWc, m_0l, m_0, m_1, m_2, Option.bind_some, am_cI, am_cJ, am_cA, am_cV, cond_true, cond_false, reduceIte, y_Grammar_readVariable, e_Grammar_readVariable_0, e_Grammar_readVariable_26, e_Grammar_readVariable_30, e_Grammar_readVariable_31, c_acceptFrom1 (f := f) _ hT, c_accept1 (f := f) _ hT, m_b0, ft3_0, ft3_1]
  trace_state
  sorry
end GRC
