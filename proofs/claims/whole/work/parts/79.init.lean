/-! THE CONSTRUCTORS -/
def qz (L : List aC) : Nat := (L.map fun c => c.2.length).sum
def qM (xs : List Int32) (L : List aC) : aM := ((10, xs.map Value.int) :: (10, m_tens.map Value.int) :: (10, m_deep.map Value.int) :: L, L.length, qz L)
def bT (n : Nat) : List aC := [(6, [.ref (n + 1), .int 0]), (13, List.replicate 60 (.int 0))]
def bR (n k : Nat) : List aC := [(4, [.ref (n + 1), .int 0]), (11, List.replicate k (.long 0))]
def bRd (n : Nat) : List aC := (3, [.ref (n + 1), .int 0]) :: bT (n + 1)
def bG (n : Nat) : List aC := (2, [.ref (n + 1)]) :: bRd (n + 1)
def bE (n : Nat) : List aC := (1, [.ref (n + 1), .ref (n + 4), .int 0, .int 0]) :: (bRd (n + 1) ++ [(11, List.replicate 6 (.long 0))])
def bS (n w : Nat) : List aC := (5, [.ref w, .ref (n + 1), .int 0, .long 0, .int 0]) :: bE (n + 1)
def bAc (n : Nat) : List aC := (0, [.ref (n + 1), .ref (n + 3), .int 0, .long 0, .int 0, .int 0, .int (-5000)]) :: (bT (n + 1) ++ bR (n + 3) 6)
section QI
variable {xs : List Int32} {A B C : List aC} {n k j d : Nat} {fs : List Value} {v : Value}
theorem q_nw : am_nw (qM xs A) k fs = qM xs (A ++ [(k, fs)]) := by
  simp [am_nw, qM, qz]
theorem q_l : (qM xs A).1.length = A.length + 3 := rfl
theorem q_at (hn : A.length + 3 = n) : (qM xs (A ++ (k, fs) :: B)).1[n]? = some (k, fs) := by
  subst hn
  simp [qM]
theorem q_wr (hn : A.length + 3 = n) (hj : j < fs.length) : am_wr (qM xs (A ++ (k, fs) :: B)) n k j v = some (qM xs (A ++ (k, fs.set j v) :: B)) := by
  unfold am_wr
  rw [q_at hn, Option.bind_some]
  have h1 : Nat.beq k k = true := Nat.beq_refl k
  have h2 : Nat.ble am_ro n = true := Nat.ble_eq.mpr (show 3 ≤ n by omega)
  have h3 : Nat.blt j fs.length = true := Nat.ble_eq.mpr hj
  rw [h1, h2, h3]
  subst hn
  simp [qM, qz]
theorem q_rA {r : Nat} (hn : A.length + 3 = n) (hj : fs[j]? = some (.ref r)) : am_rA (qM xs (A ++ (k, fs) :: B)) n k j = some r := by
  unfold am_rA am_rd
  rw [q_at hn, Option.bind_some, show Nat.beq k k = true from Nat.beq_refl k, cond_true, hj]; rfl
theorem q_ln (hn : A.length + 3 = n) : am_ln (qM xs (A ++ (k, fs) :: B)) n k = some fs.length := by
  unfold am_ln
  rw [q_at hn, Option.bind_some, show Nat.beq k k = true from Nat.beq_refl k, cond_true]
theorem i_T (hd : 1 ≤ d) (hn : A.length + 3 = n) : am_Y d 56 [.ref n] (qM xs (A ++ [(6, am_df 6)])) = some (.inl none, qM xs (A ++ bT n)) := by
  obtain ⟨d, rfl⟩ : ∃ e, d = e + 1 := ⟨d - 1, by omega⟩
  rw [y_Text_init, e_Text_init_0, bb (show am_ix 60 = some 60 from rfl), show Nat.ble 60 1000 = true from rfl, cond_true, q_nw, q_l, List.append_assoc, List.singleton_append, bb (q_wr hn (by simp [am_df])), List.length_append]
  rw [show A.length + [((6, am_df 6) : aC)].length + 3 = n + 1 by simp; omega]
  rfl
theorem i_R (hd : 1 ≤ d) (hk : k ≤ 1000) (hn : A.length + 3 = n) : am_Y d 30 [.ref n, .int (nI k)] (qM xs (A ++ [(4, am_df 4)])) = some (.inl none, qM xs (A ++ bR n k)) := by
  obtain ⟨d, rfl⟩ : ∃ e, d = e + 1 := ⟨d - 1, by omega⟩
  rw [y_Row_init, e_Row_init_0, b_ix _ (by omega), show Nat.ble k 1000 = true from Nat.ble_eq.mpr hk, cond_true, q_nw, q_l, List.append_assoc, List.singleton_append, bb (q_wr hn (by simp [am_df])), List.length_append]
  rw [show A.length + [((4, am_df 4) : aC)].length + 3 = n + 1 by simp; omega]
  rfl
theorem i_Rd (hd : 2 ≤ d) (hn : A.length + 3 = n) : am_Y d 22 [.ref n] (qM xs (A ++ [(3, am_df 3)])) = some (.inl none, qM xs (A ++ bRd n)) := by
  obtain ⟨d, rfl⟩ : ∃ e, d = e + 1 := ⟨d - 1, by omega⟩
  have e : (A ++ [((3, am_df 3) : aC)]).length + 3 = n + 1 := by simp; omega
  have h := i_T (xs := xs) (show 1 ≤ d by omega) e
  rw [y_Reader_init, e_Reader_init_0, q_nw, q_l, e, bV h, List.append_assoc, List.singleton_append, bb (q_wr hn (by simp [am_df]))]
  rfl
theorem i_G (hd : 3 ≤ d) (hn : A.length + 3 = n) : am_Y d 13 [.ref n] (qM xs (A ++ [(2, am_df 2)])) = some (.inl none, qM xs (A ++ bG n)) := by
  obtain ⟨d, rfl⟩ : ∃ e, d = e + 1 := ⟨d - 1, by omega⟩
  have e : (A ++ [((2, am_df 2) : aC)]).length + 3 = n + 1 := by simp; omega
  have h := i_Rd (xs := xs) (show 2 ≤ d by omega) e
  rw [y_Grammar_init, e_Grammar_init_0, q_nw, q_l, e, bV h, List.append_assoc, List.singleton_append, bb (q_wr hn (by simp [am_df]))]
  rfl
theorem i_E (hd : 3 ≤ d) (hn : A.length + 3 = n) : am_Y d 3 [.ref n] (qM xs (A ++ [(1, am_df 1)])) = some (.inl none, qM xs (A ++ bE n)) := by
  obtain ⟨d, rfl⟩ : ∃ e, d = e + 1 := ⟨d - 1, by omega⟩
  have e : (A ++ [((1, am_df 1) : aC)]).length + 3 = n + 1 := by simp; omega
  have h := i_Rd (xs := xs) (show 2 ≤ d by omega) e
  rw [y_Evaluator_init, e_Evaluator_init_0, q_nw, q_l, e, bV h, List.append_assoc, List.singleton_append, bb (q_wr hn (by simp [am_df])), bb (show am_ix 6 = some 6 from rfl), show Nat.ble 6 1000 = true from rfl, cond_true, q_nw, q_l, List.append_assoc, List.cons_append, bb (q_wr hn (by simp [am_df]))]
  rw [show (A ++ ((1, List.set (am_df 1) 0 (.ref (n + 1))) : aC) :: bRd (n + 1)).length + 3 = n + 4 by simp [bRd, bT]; omega]
  rfl
theorem i_S {w : Nat} (hd : 4 ≤ d) (hn : A.length + 3 = n) : am_Y d 34 [.ref n, .ref w] (qM xs (A ++ [(5, am_df 5)])) = some (.inl none, qM xs (A ++ bS n w)) := by
  obtain ⟨d, rfl⟩ : ∃ e, d = e + 1 := ⟨d - 1, by omega⟩
  have e : (A ++ [((5, List.set (am_df 5) 0 (.ref w)) : aC)]).length + 3 = n + 1 := by simp; omega
  have h := i_E (xs := xs) (show 3 ≤ d by omega) e
  rw [y_Stepper_init, e_Stepper_init_0, bb (q_wr hn (by simp [am_df])), q_nw, q_l, e, bV h, List.append_assoc, List.singleton_append, bb (q_wr hn (by simp [am_df]))]
  rfl
theorem i_A (hd : 2 ≤ d) (hn : A.length + 3 = n) : am_Y d 0 [.ref n] (qM xs (A ++ [(0, am_df 0)])) = some (.inl none, qM xs (A ++ bAc n)) := by
  obtain ⟨d, rfl⟩ : ∃ e, d = e + 1 := ⟨d - 1, by omega⟩
  have e : (A ++ [((0, am_df 0) : aC)]).length + 3 = n + 1 := by simp; omega
  have h := i_T (xs := xs) (show 1 ≤ d by omega) e
  have e2 : (A ++ ((0, List.set (am_df 0) 0 (.ref (n + 1))) : aC) :: bT (n + 1)).length + 3 = n + 3 := by simp [bT]; omega
  have h2 := i_R (xs := xs) (k := 6) (show 1 ≤ d by omega) (by decide) e2
  rw [show nI 6 = 6 from rfl] at h2
  rw [y_Actor_init, e_Actor_init_0, q_nw, q_l, e, bV h, List.append_assoc, List.singleton_append, bb (q_wr hn (by simp [am_df])), q_nw, q_l, e2, bV h2, List.append_assoc, List.cons_append, bb (q_wr hn (by simp [am_df])), bb (q_wr hn (by simp [am_df])), bb (q_wr hn (by simp [am_df])), bb (q_wr hn (by simp [am_df]))]
  rfl
/-- three programs: their references, what is checked, the cells -/
def lw3 : Nat → List Value × List Value × List aC
  | 0 => (List.replicate 3 .null, List.replicate 3 (.int 0), [])
  | i + 1 => ((lw3 i).1.set i (.ref (7 + (lw3 i).2.2.length)), (lw3 i).2.1.set i (.int 1), (lw3 i).2.2 ++ bT (7 + (lw3 i).2.2.length))
theorem lw3_l : ∀ i, (lw3 i).1.length = 3 ∧ (lw3 i).2.1.length = 3
  | 0 => ⟨rfl, rfl⟩
  | i + 1 => by unfold lw3; rw [List.length_set, List.length_set]; exact lw3_l i
def lw6 : Nat → List Value × List aC
  | 0 => (List.replicate 6 .null, [])
  | i + 1 => ((lw6 i).1.set i (.ref (14 + (lw6 i).2.length)), (lw6 i).2 ++ bAc (14 + (lw6 i).2.length))
theorem lw6_l : ∀ i, (lw6 i).1.length = 6
  | 0 => rfl
  | i + 1 => by unfold lw6; rw [List.length_set]; exact lw6_l i
def lw42 : Nat → List Value × List aC
  | 0 => (List.replicate 42 .null, [])
  | i + 1 => ((lw42 i).1.set i (.ref (45 + (lw42 i).2.length)), (lw42 i).2 ++ bR (45 + (lw42 i).2.length) 8)
theorem lw42_l : ∀ i, (lw42 i).1.length = 42
  | 0 => rfl
  | i + 1 => by unfold lw42; rw [List.length_set]; exact lw42_l i
def w3 (i : Nat) : List aC := (8, am_df 8) :: (7, [.ref 5, .ref 6, .null, .null]) :: (14, (lw3 i).1) :: (12, (lw3 i).2.1) :: (lw3 i).2.2
def w6 (P : List aC) (i : Nat) : List aC := (8, am_df 8) :: (7, [.ref 5, .ref 6, .ref 13, .null]) :: (P ++ (15, (lw6 i).1) :: (lw6 i).2)
def w42 (P : List aC) (i : Nat) : List aC := (8, am_df 8) :: (7, [.ref 5, .ref 6, .ref 13, .ref 44]) :: (P ++ (16, (lw42 i).1) :: (lw42 i).2)
theorem i_w3 (hd : 1 ≤ d) : ∀ q i, q + i = 3 → am_X (am_Y d) k_World_init 21 [(0, .ref 4), (1, .int (nI i))] [] (qM xs (w3 i)) = am_X (am_Y d) k_World_init 52 [(0, .ref 4)] [] (qM xs (w3 3)) := by
  intro q
  induction q with
  | zero =>
    intro i hq
    have : i = 3 := by omega
    subst this
    rw [e_World_init_21, l_3, if_pos (nI_le (by omega) (by omega))]
  | succ q ih =>
    intro i hq
    have e3 : ¬ nI 3 ≤ nI i := by rw [nI_leI (by omega) (by omega)]; omega
    have el : (w3 i).length + 3 = 7 + (lw3 i).2.2.length := by simp [w3]; omega
    have h := i_T (xs := xs) hd el
    obtain ⟨q1, q2⟩ := lw3_l i
    rw [e_World_init_21, l_3, if_neg e3]
    rw [bb (show am_rA (qM xs (w3 i)) 4 7 0 = some 5 from q_rA (A := [(8, am_df 8)]) rfl rfl), q_nw, q_l, el, bV h]
    rw [bb (show am_ln (qM xs (w3 i ++ bT (7 + (lw3 i).2.2.length))) (7 + (lw3 i).2.2.length) 6 = some 2 from q_ln el), b_ix _ (by omega)]
    have ew : w3 i ++ bT (7 + (lw3 i).2.2.length) = [(8, am_df 8), (7, [.ref 5, .ref 6, .null, .null])] ++ (14, (lw3 i).1) :: (12, (lw3 i).2.1) :: ((lw3 i).2.2 ++ bT (7 + (lw3 i).2.2.length)) := by simp [w3]
    have er : ∀ (X : aC) (Y : List aC), am_rA (qM xs ([(8, am_df 8), (7, [.ref 5, .ref 6, .null, .null])] ++ X :: Y)) 4 7 1 = some 6 := fun X Y => q_rA (A := [(8, am_df 8)]) rfl rfl
    have es : ∀ (X : aC) (Y : List aC), [(8, am_df 8), (7, [.ref 5, .ref 6, .null, .null])] ++ X :: Y = [(8, am_df 8), (7, [.ref 5, .ref 6, .null, .null]), X] ++ Y := fun X Y => rfl
    rw [ew, bb (q_wr (by rfl) (by omega)), bb (er _ _), b_ix _ (by omega), i_11, es, bb (q_wr (by rfl) (by omega)), nI_1, ← ih (i + 1) (by omega)]
    rfl
theorem i_w6 {P : List aC} (hP : P.length = 8) (hd : 2 ≤ d) : ∀ q i, q + i = 6 → am_X (am_Y d) k_World_init 63 [(0, .ref 4), (1, .int (nI i))] [] (qM xs (w6 P i)) = am_X (am_Y d) k_World_init 88 [(0, .ref 4)] [] (qM xs (w6 P 6)) := by
  intro q
  induction q with
  | zero =>
    intro i hq
    have : i = 6 := by omega
    subst this
    rw [e_World_init_63, l_6, if_pos (nI_le (by omega) (by omega))]
  | succ q ih =>
    intro i hq
    have e3 : ¬ nI 6 ≤ nI i := by rw [nI_leI (by omega) (by omega)]; omega
    have el : (w6 P i).length + 3 = 14 + (lw6 i).2.length := by simp [w6]; omega
    have h := i_A (xs := xs) hd el
    have q1 := lw6_l i
    rw [e_World_init_63, l_6, if_neg e3]
    rw [bb (show am_rA (qM xs (w6 P i)) 4 7 2 = some 13 from q_rA (A := [(8, am_df 8)]) rfl rfl), q_nw, q_l, el, bV h]
    rw [bb (show am_ln (qM xs (w6 P i ++ bAc (14 + (lw6 i).2.length))) (14 + (lw6 i).2.length) 0 = some 7 from q_ln el), b_ix _ (by omega)]
    have ew : w6 P i ++ bAc (14 + (lw6 i).2.length) = ((8, am_df 8) :: (7, [.ref 5, .ref 6, .ref 13, .null]) :: P) ++ (15, (lw6 i).1) :: ((lw6 i).2 ++ bAc (14 + (lw6 i).2.length)) := by simp [w6]
    rw [ew, bb (q_wr (by simp; omega) (by omega)), nI_1, ← ih (i + 1) (by omega)]
    simp [w6, lw6]
theorem i_w42 {P : List aC} (hP : P.length = 39) (hd : 1 ≤ d) : ∀ q i, q + i = 42 → am_X (am_Y d) k_World_init 99 [(0, .ref 4), (1, .int (nI i))] [] (qM xs (w42 P i)) = some (.inl none, qM xs (w42 P 42)) := by
  intro q
  induction q with
  | zero =>
    intro i hq
    have : i = 42 := by omega
    subst this
    have ew : w42 P 42 = ((8, am_df 8) :: (7, [.ref 5, .ref 6, .ref 13, .ref 44]) :: P) ++ (16, (lw42 42).1) :: (lw42 42).2 := by simp [w42]
    rw [e_World_init_99, bb (show am_rA (qM xs (w42 P 42)) 4 7 3 = some 44 from q_rA (A := [(8, am_df 8)]) rfl rfl), ew, bb (q_ln (by simp; omega)), lw42_l, if_pos (nI_le (by omega) (by omega)), e_World_init_129]
  | succ q ih =>
    intro i hq
    have e3 : ¬ nI 42 ≤ nI i := by rw [nI_leI (by omega) (by omega)]; omega
    have el : (w42 P i).length + 3 = 45 + (lw42 i).2.length := by simp [w42]; omega
    have h := i_R (xs := xs) (k := 8) hd (by decide) el
    rw [show nI 8 = 8 from rfl] at h
    have q1 := lw42_l i
    have ew0 : w42 P i = ((8, am_df 8) :: (7, [.ref 5, .ref 6, .ref 13, .ref 44]) :: P) ++ (16, (lw42 i).1) :: (lw42 i).2 := by simp [w42]
    have hl : am_ln (qM xs (w42 P i)) 44 16 = some 42 := by rw [ew0, q_ln (by simp; omega), q1]
    have hr : am_rA (qM xs (w42 P i)) 4 7 3 = some 44 := q_rA (A := [(8, am_df 8)]) rfl rfl
    rw [e_World_init_99, bb hr, bb hl, if_neg e3, bb hr, q_nw, q_l, el, bV h]
    rw [bb (show am_ln (qM xs (w42 P i ++ bR (45 + (lw42 i).2.length) 8)) (45 + (lw42 i).2.length) 4 = some 2 from q_ln el), b_ix _ (by omega)]
    have ew : w42 P i ++ bR (45 + (lw42 i).2.length) 8 = ((8, am_df 8) :: (7, [.ref 5, .ref 6, .ref 13, .ref 44]) :: P) ++ (16, (lw42 i).1) :: ((lw42 i).2 ++ bR (45 + (lw42 i).2.length) 8) := by simp [w42]
    rw [ew, bb (q_wr (by simp; omega) (by omega)), nI_1, ← ih (i + 1) (by omega)]
    simp [w42, lw42]
def w0 : List aC := ((8, am_df 8) :: (7, [.ref 5, .ref 6, .ref 13, .ref 44]) :: (14, (lw3 3).1) :: (12, (lw3 3).2.1) :: ((lw3 3).2.2 ++ (15, (lw6 6).1) :: ((lw6 6).2 ++ (16, (lw42 42).1) :: (lw42 42).2)))
theorem w0_l : w0.length = 126 := by decide +kernel
theorem lw3_c : (lw3 3).2.2.length = 6 := by decide +kernel
theorem lw6_c : (lw6 6).2.length = 30 := by decide +kernel
theorem i_W (hd : 4 ≤ d) : am_Y d 60 [.ref 4] (qM xs [(8, am_df 8), (7, am_df 7)]) = some (.inl none, qM xs w0) := by
  obtain ⟨d, rfl⟩ : ∃ e, d = e + 1 := ⟨d - 1, by omega⟩
  have a1 : ∀ (X : aC), am_wr (qM xs [(8, am_df 8), (7, am_df 7), X]) 4 7 0 (.ref 5) = some (qM xs [(8, am_df 8), (7, [.ref 5, .null, .null, .null]), X]) := fun X => q_wr (A := [(8, am_df 8)]) rfl (by decide)
  have a2 : ∀ (X Y : aC), am_wr (qM xs [(8, am_df 8), (7, [.ref 5, .null, .null, .null]), X, Y]) 4 7 1 (.ref 6) = some (qM xs [(8, am_df 8), (7, [.ref 5, .ref 6, .null, .null]), X, Y]) := fun X Y => q_wr (A := [(8, am_df 8)]) rfl (by decide)
  have a3 : ∀ (X : List aC), am_wr (qM xs ((8, am_df 8) :: (7, [.ref 5, .ref 6, .null, .null]) :: X)) 4 7 2 (.ref 13) = some (qM xs ((8, am_df 8) :: (7, [.ref 5, .ref 6, .ref 13, .null]) :: X)) := fun X => q_wr (A := [(8, am_df 8)]) rfl (by decide)
  have a4 : ∀ (X : List aC), am_wr (qM xs ((8, am_df 8) :: (7, [.ref 5, .ref 6, .ref 13, .null]) :: X)) 4 7 3 (.ref 44) = some (qM xs ((8, am_df 8) :: (7, [.ref 5, .ref 6, .ref 13, .ref 44]) :: X)) := fun X => q_wr (A := [(8, am_df 8)]) rfl (by decide)
  rw [y_World_init, e_World_init_0, bb (show am_ix 3 = some 3 from rfl), show Nat.ble 3 1000 = true from rfl, cond_true, q_nw, q_l]
  simp only [List.cons_append, List.nil_append, List.length_cons, List.length_nil, Nat.zero_add, Nat.reduceAdd]
  rw [bb (a1 _), bb (show am_ix 3 = some 3 from rfl), show Nat.ble 3 1000 = true from rfl, cond_true, q_nw, q_l]
  simp only [List.cons_append, List.nil_append, List.length_cons, List.length_nil, Nat.zero_add, Nat.reduceAdd]
  rw [bb (a2 _ _)]
  refine (i_w3 (show 1 ≤ d by omega) 3 0 rfl).trans ?_
  have l3 : (w3 3).length + 3 = 13 := by simp [w3, lw3_c]
  rw [e_World_init_52, bb (show am_ix 6 = some 6 from rfl), show Nat.ble 6 1000 = true from rfl, cond_true, q_nw, q_l, l3]
  rw [show w3 3 ++ [((15, List.replicate 6 Value.null) : aC)] = (8, am_df 8) :: (7, [.ref 5, .ref 6, .null, .null]) :: ((14, (lw3 3).1) :: (12, (lw3 3).2.1) :: (lw3 3).2.2 ++ [((15, List.replicate 6 Value.null) : aC)]) from rfl, bb (a3 _)]
  refine (i_w6 (P := (14, (lw3 3).1) :: (12, (lw3 3).2.1) :: (lw3 3).2.2) (by simp [lw3_c]) (show 2 ≤ d by omega) 6 0 rfl).trans ?_
  have l6 : (w6 ((14, (lw3 3).1) :: (12, (lw3 3).2.1) :: (lw3 3).2.2) 6).length + 3 = 44 := by simp [w6, lw3_c, lw6_c]
  rw [e_World_init_88, bb (show am_ix 42 = some 42 from rfl), show Nat.ble 42 1000 = true from rfl, cond_true, q_nw, q_l, l6]
  rw [show w6 ((14, (lw3 3).1) :: (12, (lw3 3).2.1) :: (lw3 3).2.2) 6 ++ [((16, List.replicate 42 Value.null) : aC)] = (8, am_df 8) :: (7, [.ref 5, .ref 6, .ref 13, .null]) :: ((14, (lw3 3).1) :: (12, (lw3 3).2.1) :: (lw3 3).2.2 ++ (15, (lw6 6).1) :: (lw6 6).2 ++ [((16, List.replicate 42 Value.null) : aC)]) from rfl, bb (a4 _)]
  refine (i_w42 (P := (14, (lw3 3).1) :: (12, (lw3 3).2.1) :: (lw3 3).2.2 ++ (15, (lw6 6).1) :: (lw6 6).2) (by simp [lw3_c, lw6_c]) (show 1 ≤ d by omega) 42 0 rfl).trans ?_
  simp [w42, w0]
end QI
