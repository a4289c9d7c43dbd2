/-! THE START OF THE LAW -/
def wT : List aC := (7, [.ref 5, .ref 6, .ref 13, .ref 44]) :: (14, (lw3 3).1) :: (12, (lw3 3).2.1) :: ((lw3 3).2.2 ++ (15, (lw6 6).1) :: ((lw6 6).2 ++ (16, (lw42 42).1) :: (lw42 42).2))
def wL : List aC := (8, [.ref 4, .ref 129, .ref 133]) :: ((wT ++ bG 129) ++ bS 133 4)
def mdF : List Value := [.ref 140, .ref 141, .ref 142, .ref 143, .ref 144, .ref 145, .ref 146, .ref 147, .ref 148, .ref 149, .ref 150, .ref 151, .ref 152, .ref 153, .ref 154, .int 0, .int 0, .int 0, .ref 155, .int 0, .int 0, .int 0]
def mdB : List aC := [(11, List.replicate 6 (am_dv 11)), (10, List.replicate 6 (am_dv 10)), (11, List.replicate 6 (am_dv 11))]
def mdR : List aC := [(10, List.replicate 6 (am_dv 10)), (11, List.replicate 6 (am_dv 11)), (11, List.replicate 36 (am_dv 11)), (10, List.replicate 6 (am_dv 10)), (12, List.replicate 6 (am_dv 12)), (10, List.replicate 6 (am_dv 10)), (12, List.replicate 36 (am_dv 12)), (11, List.replicate 336 (am_dv 11)), (10, List.replicate 42 (am_dv 10)), (11, List.replicate 6 (am_dv 11)), (10, List.replicate 5 (am_dv 10)), (12, List.replicate 5 (am_dv 12)), (11, List.replicate 5 (am_dv 11))]
section QJ
variable {xs : List Int32} {A B C : List aC} {n k j d : Nat} {fs vs : List Value} {v : Value}
theorem wL_l : wL.length = 136 := by decide +kernel
theorem i_AM (hd : 5 ≤ d) : am_Y d 66 [.ref 3] (qM xs [(8, am_df 8)]) = some (.inl none, qM xs wL) := by
  obtain ⟨d, rfl⟩ : ∃ e, d = e + 1 := ⟨d - 1, by omega⟩
  have e1 : w0 = (8, am_df 8) :: wT := rfl
  have lT : wT.length = 125 := by have := w0_l; rw [e1] at this; simpa using this
  have a1 : ∀ (fs : List Value) j v (X : List aC), j < fs.length → am_wr (qM xs ((8, fs) :: X)) 3 8 j v = some (qM xs ((8, fs.set j v) :: X)) := fun fs j v X h => q_wr (A := []) rfl h
  have l1 : ((8, List.set (am_df 8) 0 (.ref 4)) :: wT : List aC).length + 3 = 129 := by simp [lT]
  have h1 := i_G (xs := xs) (d := d) (by omega) l1
  have l2 : ((8, List.set (List.set (am_df 8) 0 (.ref 4)) 1 (.ref 129)) :: (wT ++ bG 129) : List aC).length + 3 = 133 := by simp [lT, bG, bRd, bT]
  have h2 := i_S (xs := xs) (d := d) (w := 4) (by omega) l2
  have h3 : am_rA (qM xs (((8, List.set (List.set (am_df 8) 0 (.ref 4)) 1 (.ref 129)) :: (wT ++ bG 129)) ++ [(5, am_df 5)])) 3 8 0 = some 4 := q_rA (A := []) rfl rfl
  rw [y_AM_init, e_AM_init_0, q_nw, q_l]
  rw [show [((8, am_df 8) : aC)].length + 3 = 4 from rfl, show [((8, am_df 8) : aC)] ++ [(7, am_df 7)] = [(8, am_df 8), (7, am_df 7)] from rfl, bV (i_W (show 4 ≤ d by omega)), e1, bb (a1 _ _ _ _ (by decide)), q_nw, q_l, l1, bV h1, List.cons_append, bb (a1 _ _ _ _ (by simp [am_df])), q_nw, q_l, l2, bb h3, bV h2, List.cons_append, bb (a1 _ _ _ _ (by simp [am_df]))]
  rfl
theorem q_ml {β : Type} (q : aM → Option β) (hA : A.length = 136) (hj : j < fs.length) : (am_wr (am_nw (qM xs (A ++ (9, fs) :: B)) k vs) 139 9 j (.ref (qM xs (A ++ (9, fs) :: B)).1.length)).bind q = q (qM xs (A ++ (9, fs.set j (.ref (140 + B.length))) :: (B ++ [(k, vs)]))) := by
  rw [q_nw, List.append_assoc, List.cons_append, bb (q_wr (by omega) hj), q_l]
  rw [show (A ++ (9, fs) :: B).length + 3 = 140 + B.length by simp; omega]
theorem i_Md (hA : A.length = 136) (hd : 1 ≤ d) : am_Y d 87 [.ref 139] (qM xs (A ++ [(9, am_df 9)])) = some (.inl none, qM xs (A ++ (9, mdF) :: (10, List.replicate 540 (am_dv 10)) :: (10, List.replicate 9 (am_dv 10)) :: (12, [.int 1, .int 1, .int 1]) :: mdR)) := by
  obtain ⟨d, rfl⟩ : ∃ e, d = e + 1 := ⟨d - 1, by omega⟩
  rw [y_Md_init, e_Md_init_0]
  simp only [↓bb (show am_ix 540 = some 540 from rfl), ↓bb (show am_ix 9 = some 9 from rfl), ↓bb (show am_ix 3 = some 3 from rfl), ↓bb (show am_ix 6 = some 6 from rfl), ↓bb (show am_ix 36 = some 36 from rfl), ↓bb (show am_ix 336 = some 336 from rfl), ↓bb (show am_ix 42 = some 42 from rfl), ↓bb (show am_ix 5 = some 5 from rfl)]
  simp only [show Nat.ble 540 1000 = true from rfl, show Nat.ble 9 1000 = true from rfl, show Nat.ble 3 1000 = true from rfl, show Nat.ble 6 1000 = true from rfl, show Nat.ble 36 1000 = true from rfl, show Nat.ble 336 1000 = true from rfl, show Nat.ble 42 1000 = true from rfl, show Nat.ble 5 1000 = true from rfl, cond_true]
  rw [q_ml _ hA (by decide)]
  rw [q_ml _ hA (by simp only [List.length_set]; decide)]
  rw [q_ml _ hA (by simp only [List.length_set]; decide)]
  rw [q_ml _ hA (by simp only [List.length_set]; decide)]
  rw [q_ml _ hA (by simp only [List.length_set]; decide)]
  rw [q_ml _ hA (by simp only [List.length_set]; decide)]
  rw [q_ml _ hA (by simp only [List.length_set]; decide)]
  rw [q_ml _ hA (by simp only [List.length_set]; decide)]
  rw [q_ml _ hA (by simp only [List.length_set]; decide)]
  rw [q_ml _ hA (by simp only [List.length_set]; decide)]
  rw [q_ml _ hA (by simp only [List.length_set]; decide)]
  rw [q_ml _ hA (by simp only [List.length_set]; decide)]
  rw [q_ml _ hA (by simp only [List.length_set]; decide)]
  rw [q_ml _ hA (by simp only [List.length_set]; decide)]
  rw [q_ml _ hA (by simp only [List.length_set]; decide)]
  rw [q_ml _ hA (by simp only [List.length_set]; decide)]
  have rA : ∀ X : List aC, am_rA (qM xs (A ++ (9, mdF) :: X)) 139 9 2 = some 142 := fun X => q_rA (by omega) rfl
  have wA : ∀ (K : List Value) (i : Nat), i < K.length → am_wr (qM xs (A ++ (9, mdF) :: (10, List.replicate 540 (am_dv 10)) :: (10, List.replicate 9 (am_dv 10)) :: (12, K) :: mdR)) 142 12 i (.int 1) = some (qM xs (A ++ (9, mdF) :: (10, List.replicate 540 (am_dv 10)) :: (10, List.replicate 9 (am_dv 10)) :: (12, K.set i (.int 1)) :: mdR)) := by
    intro K i hK
    have := q_wr (xs := xs) (A := A ++ [(9, mdF), (10, List.replicate 540 (am_dv 10)), (10, List.replicate 9 (am_dv 10))]) (n := 142) (k := 12) (fs := K) (B := mdR) (v := .int 1) (by rw [List.length_append, hA]; rfl) hK
    simp only [List.append_assoc, List.cons_append, List.nil_append] at this
    exact this
  have e0 : ∀ L : List aC, L = (9, mdF) :: (10, List.replicate 540 (am_dv 10)) :: (10, List.replicate 9 (am_dv 10)) :: (12, List.replicate 3 (am_dv 12)) :: mdR → am_X (am_Y d) k_Md_init 132 [(0, .ref 139), (1, .int 0)] [] (qM xs (A ++ L)) = some (.inl none, qM xs (A ++ (9, mdF) :: (10, List.replicate 540 (am_dv 10)) :: (10, List.replicate 9 (am_dv 10)) :: (12, [.int 1, .int 1, .int 1]) :: mdR)) := by
    intro L e
    subst e
    rw [e_Md_init_132, if_neg (by decide), bb (rA _), bb (show am_ix 0 = some 0 from rfl), i_11, bb (wA _ _ (by decide)), e_Md_init_132, if_neg (by decide), bb (rA _), bb (show am_ix (0 + 1) = some 1 from rfl), i_11, bb (wA _ _ (by decide)), e_Md_init_132, if_neg (by decide), bb (rA _), bb (show am_ix (0 + 1 + 1) = some 2 from rfl), i_11, bb (wA _ _ (by decide)), e_Md_init_132, if_pos (by decide), e_Md_init_150]
    rfl
  exact e0 _ rfl
def LF : List aC := wL ++ ((9, mdF) :: (10, List.replicate 540 (am_dv 10)) :: (10, List.replicate 9 (am_dv 10)) :: (12, [.int 1, .int 1, .int 1]) :: mdR ++ [(11, List.replicate 1 (am_dv 11))])
def f0 : mF := fun a k => if (a = 6 ∨ a = 142) ∧ k < 3 then 1 else if a < 44 ∧ k = 6 ∧ a % 5 = 4 ∧ 14 ≤ a then -5000 else 0
def g0 : mG := fun _ _ => 0
theorem LF_eq : LF = (List.range 154).map (fun j => m_ce f0 g0 131 136 (j + 3)) := by decide +kernel
theorem LF_l : LF.length = 154 := by decide +kernel
theorem LF_z : qz LF = 2349 := by decide +kernel
def S0 : sS2 := (fun a k => if a = 0 ∧ k < 3 then 1 else if a = 3 then 9999 else 0, fun _ _ => (10, []))
theorem f0_6 : ∀ p, p < 3 → f0 6 p = 1 := by decide +kernel
theorem f0_142 : ∀ p, p < 3 → f0 142 p = 1 := by decide +kernel
theorem S0_0 : ∀ p, p < 3 → S0.1 0 p = 1 := by decide +kernel
theorem iv0 : iv f0 g0 S0 := by
  have tql : ∀ q, q < 9 → f0 (tq q) 1 = 0 := by decide +kernel
  have tq2 : ∀ q, q < 9 → ∀ k, k < 60 → f0 (tq q + 1) k = 0 := by decide +kernel
  have z3 : ∀ i, i < 6 → f0 (14 + 5 * i) 2 = 0 ∧ f0 (14 + 5 * i) 4 = 0 ∧ f0 (14 + 5 * i) 6 = -5000 ∧ f0 (14 + 5 * i) 5 = 0 ∧ f0 (17 + 5 * i) 1 = 0 := by decide +kernel
  have zw : ∀ j, j < 42 → f0 (45 + 2 * j) 1 = 0 := by decide +kernel
  have pn : ∀ w : Nat → Int32, pAll w 0 60 0 = none := fun w => by rw [pAll_eq (Nat.zero_le 60) 0]; rfl
  refine ⟨⟨fun p hp => ?_, fun i hi => (z3 i hi).1, fun i hi => (z3 i hi).2.1, fun i hi => (z3 i hi).2.2.1, fun i hi => (z3 i hi).2.2.2.1, fun i hi => (z3 i hi).2.2.2.2, fun j hj => zw j hj, fun i hi => rfl, fun i hi k hk => absurd hk (Nat.not_lt_zero k), fun i hi k hk => absurd hk (Nat.not_lt_zero k), fun q hq => tql q hq, fun q hq k hk => ?_, fun i hi k hk => absurd hk (Nat.not_lt_zero k)⟩, ⟨fun p hp => ?_, ?_, ?_, ?_, ?_, ?_, ?_, ?_, ?_, ?_, ?_, ?_, ⟨0, by decide, Int32.sub_self _⟩⟩, ?_⟩
  · rw [f0_6 p hp, S0_0 p hp]; rfl
  · rw [tq2 q hq k hk]; decide
  · rw [f0_142 p hp, S0_0 p hp]; rfl
  · exact (by decide +kernel : ∀ i, i < 6 → f0 143 i = nI (S0.1 1 i))
  · exact (by decide +kernel : ∀ i, i < 6 → S0.1 1 i = 1 → f0 147 i = nI (S0.1 2 i))
  · exact (by decide +kernel : ∀ i, i < 6 → S0.1 3 i < 2013 → f0 148 i = nI (S0.1 3 i))
  · exact (by decide +kernel : ∀ i, i < 6 → ∀ k, k < 6 → f0 149 (6 * i + k) = nI (S0.1 4 i / 2 ^ k % 2))
  · exact (by decide +kernel : ∀ i, i < 6 → f0 146 i = nI (S0.1 5 i))
  · exact (by decide +kernel : ∀ j, j < 42 → f0 151 j = nI (S0.1 6 j))
  · exact fun i hi h => absurd (show S0.1 1 i = 1 from h) (by show ¬ (0 = 1); decide)
  · exact fun i hi k hk h => absurd h (Nat.not_lt_zero k)
  · exact fun i hi k hk h => absurd h (Nat.not_lt_zero k)
  · exact (by decide +kernel : ∀ q, q < 9 → f0 141 q = nI (S0.1 7 q))
  · exact fun i hi k hk h => absurd h (Nat.not_lt_zero k)
  · refine ⟨⟨?_, ?_, ?_, ?_⟩, fun i hi h => ⟨rfl, rfl, rfl⟩, fun i hi h => absurd (show 0 = 1 from h) (by decide), fun i hi h => absurd (show 0 = 2 from h) (by decide), ?_, fun i hi k hk => absurd hk (Nat.not_lt_zero k), fun i hi k hk => absurd hk (Nat.not_lt_zero k), fun p hp h => pn _, fun i hi h => pn _⟩
    · exact (by decide +kernel : ∀ i, i < 6 → S0.1 1 i ≤ 2 ∧ S0.1 2 i ≤ 1 ∧ S0.1 4 i < 64 ∧ S0.1 5 i ≤ 6)
    · exact (by decide +kernel : ∀ j, j < 42 → S0.1 6 j ≤ 8)
    · exact (by decide +kernel : ∀ q, q < 9 → S0.1 7 q ≤ 60)
    · exact (by decide +kernel : ∀ p, p < 3 → S0.1 0 p ≤ 1)
    · exact (by decide +kernel : ∀ i, i < 6 → S0.1 4 i / 2 ^ i % 2 = 0)
theorem law_all (hd : 23 ≤ d) (hn : xs.length < 2 ^ 31) : ∃ M', am_Y d 155 [.ref 0] (qM xs []) = some (.inl (some (.int 1)), M') ∧ M'.2.1 ≤ 154 + xs.length / 5 ∧ M'.2.2 ≤ 2349 + 6 * (xs.length / 5) := by
  obtain ⟨d, rfl⟩ : ∃ e, d = e + 2 := ⟨d - 2, by omega⟩
  obtain ⟨f', g', t', u', c', s', r1, r2, r3⟩ := law_loop (d := d) (show 21 ≤ d by omega) hn (xs.length / 5) 0 f0 g0 131 136 154 2349 S0 (by omega) (by omega) iv0
  refine ⟨mM xs f' g' t' u' c' s', ?_, r2, r3⟩
  have eM : qM xs LF = mM xs f0 g0 131 136 154 2349 := by
    unfold qM mM
    rw [LF_l, LF_z, LF_eq]
  have l1 : (qM xs wL).1.length = 139 := by rw [q_l, wL_l]
  have h1 := i_AM (xs := xs) (d := d + 1) (by omega)
  have h2 := i_Md (xs := xs) (d := d + 1) wL_l (by omega)
  rw [y_Lw_law, e_Lw_law_0, q_nw, q_l]
  rw [show ([] : List aC).length + 3 = 3 from rfl, List.nil_append, bV h1, q_nw, l1, bV h2, bb (show am_ix 1 = some 1 from rfl), show Nat.ble 1 1000 = true from rfl, cond_true, q_nw, q_l]
  rw [← r1, ← eM, List.append_assoc]
  rw [List.length_append, wL_l]
  rfl
end QJ
