/-! THE METHODS OF THE MODEL ON TERMS -/
section TMo
variable {xs : List Int32} {f : mF} {g : mG} {t u c s d : Nat} {M : aM} {i j k b : Nat} {l r : List Nat}
/-- the part that begins at a bit: its shape, and how many leaves stand before it -/
def sS (i b : Nat) : Nat := ([[0], [1, 0, 0], [2, 1, 0, 0, 0], [3, 0, 1, 0, 0], [4, 2, 1, 0, 0, 0, 0], [5, 3, 0, 1, 0, 0, 0], [6, 1, 0, 0, 1, 0, 0], [7, 0, 2, 1, 0, 0, 0], [8, 0, 3, 0, 1, 0, 0]].getD i []).getD b 0
def sF (i b : Nat) : Nat := ([[0], [0, 0, 1], [0, 0, 0, 1, 2], [0, 0, 1, 1, 2], [0, 0, 0, 0, 1, 2, 3], [0, 0, 0, 1, 1, 2, 3], [0, 0, 0, 1, 2, 2, 3], [0, 0, 1, 1, 1, 2, 3], [0, 0, 1, 1, 2, 2, 3]].getD i []).getD b 0
def sW (i b : Nat) : Nat := 2 * sN (sS i b) - 1
/-- where the part that needs so many ends -/
def nb (B : Nat) : Nat → Nat → Nat → Option Nat
  | _, 0, b => some b
  | 0, _, _ => none
  | q + 1, e + 1, b => if b < 7 then (if B / 2 ^ b % 2 = 1 then nb B q (e + 2) (b + 1) else nb B q e (b + 1)) else none
theorem sS_f1 : ∀ i, i < 9 → ∀ b, b < 7 → b < 2 * sN i - 1 → sS i b < 9 ∧ nb (sB i) 8 1 b = some (b + sW i b) ∧ b + sW i b ≤ 7 := by decide +kernel
theorem sS_f2 : ∀ i, i < 9 → ∀ b, b < 7 → b < 2 * sN i - 1 → sB i / 2 ^ b % 2 ^ sW i b = sB (sS i b) ∧ sF i b + sN (sS i b) ≤ sN i := by decide +kernel
theorem sS_f3 : ∀ i, i < 9 → ∀ b, b < 7 → b < 2 * sN i - 1 → (sB i / 2 ^ b % 2 = 0 ↔ sS i b = 0) := by decide +kernel
theorem sS_f (i : Nat) (hi : i < 9) (b : Nat) (hb : b < 7) (h : b < 2 * sN i - 1) : sS i b < 9 ∧ nb (sB i) 8 1 b = some (b + sW i b) ∧ b + sW i b ≤ 7 ∧ sB i / 2 ^ b % 2 ^ sW i b = sB (sS i b) ∧ sF i b + sN (sS i b) ≤ sN i ∧ (sB i / 2 ^ b % 2 = 0 ↔ sS i b = 0) :=
  let a := sS_f1 i hi b hb h; let c := sS_f2 i hi b hb h; ⟨a.1, a.2.1, a.2.2, c.1, c.2, sS_f3 i hi b hb h⟩
theorem sS_0 : ∀ i, i < 9 → sS i 0 = i ∧ sF i 0 = 0 := by decide
theorem sS_l : ∀ i, i < 9 → ∀ b, b < 7 → (b < 2 * sN i - 1 ∧ ¬ sS i b = 0) → b + 1 < 2 * sN i - 1 ∧ sS i (b + 1) = sL (sS i b) ∧ sF i (b + 1) = sF i b := by decide +kernel
theorem sS_r : ∀ i, i < 9 → ∀ b, b < 7 → (b < 2 * sN i - 1 ∧ ¬ sS i b = 0) → b + 1 + sW i (b + 1) < 2 * sN i - 1 ∧ sS i (b + 1 + sW i (b + 1)) = sR (sS i b) ∧ sF i (b + 1 + sW i (b + 1)) = sF i b + sN (sL (sS i b)) ∧ b + 1 + sW i (b + 1) + sW i (b + 1 + sW i (b + 1)) = b + sW i b := by decide +kernel
theorem rL {a b : Nat} (h : a = b) : (some (.inl (some (.long (lN a))), M) : Option aR) = some (.inl (some (.long (lN b))), M) := by rw [h]
theorem rI {a b : Nat} (h : a = b) : (some (.inl (some (.int (nI a))), M) : Option aR) = some (.inl (some (.int (nI b))), M) := by rw [h]
theorem t_leaves (hd : 1 ≤ d) (h : tv i l) : am_Y d 114 [.long (lN (tM i l))] M = some (.inl (some (.int (nI (sN i)))), M) := by
  obtain ⟨d, rfl⟩ : ∃ e, d = e + 1 := ⟨d - 1, by omega⟩
  rw [y_Md_leaves, e_Md_leaves_0, j_7, lN_and, and7, tM_n h, lN_i]
theorem t_leafOf (hd : 1 ≤ d) (h : tv i l) (hk : k < sN i) : am_Y d 117 [.long (lN (tM i l)), .int (nI k)] M = some (.inl (some (.int (nI (l.getD k 0)))), M) := by
  obtain ⟨d, rfl⟩ : ∃ e, d = e + 1 := ⟨d - 1, by omega⟩
  have h1 := tM_lt h
  have h2 := sN_le i
  rw [y_Md_leafOf, e_Md_leafOf_0, l_11, l_10, nI_mul, nI_add, lN_shr (by omega) (by omega), lN_i, show (2047 : Int32) = nI 2047 from rfl, nI_and, and2047, tM_lf h hk]
theorem t_leafOf0 (hd : 1 ≤ d) (h : tv i l) : am_Y d 117 [.long (lN (tM i l)), .int 0] M = some (.inl (some (.int (nI (l.getD 0 0)))), M) := t_leafOf hd h (sN_pos i h.1)
theorem t_mpair (hd : 2 ≤ d) (h : tv i l) (k : tv j r) : am_Y d 113 [.long (lN (tM i l)), .long (lN (tM j r))] M = some (.inl (some (.long (if sN i + sN j ≤ 4 then lN (tM (sP i j) (l ++ r)) else 0))), M) := by
  obtain ⟨d, rfl⟩ : ∃ e, d = e + 1 := ⟨d - 1, by omega⟩
  have hi := sN_le i
  have hj := sN_le j
  have hbi := sB_lt i h.1
  have hbj := sB_lt j k.1
  have hm := tM_lt h
  have hk := tM_lt k
  have h1 : 1 ≤ d := by omega
  rw [y_Md_pair, e_Md_pair_0, bI (t_leaves h1 h), bI (t_leaves h1 k), nI_add, l_4]
  simp (disch := omega) only [nI_leI]
  by_cases hn : sN i + sN j ≤ 4
  · obtain ⟨q1, q2, q3, q4, _⟩ := sP_f i h.1 j k.1 hn
    have hb := sB_lt _ q1
    have e1 : (sB i + 128 * mL l) % 128 = sB i := by omega
    have e2 : (sB j + 128 * mL r) % 128 = sB j := by omega
    rw [if_pos hn, if_pos hn, e_Md_pair_23, nI_add, l_3, l_1, l_2, l_10, l_11, nI_mul, nI_mul, nI_add, lN_shr (by omega) (by omega), lN_shr (by omega) (by omega), lN_shr (by omega) (by omega), lN_shr (by omega) (by omega), tM_B h, tM_B k, tM_L h, tM_L k, j_127, lN_and, lN_and, and127, and127, e1, e2, j_1, lN_shl _ (by omega), lN_shl _ (by omega), lN_or, lN_or, q4, lN_shl _ (by omega), lN_shl _ (by omega), lN_shl _ (by omega), nI_l (by omega), lN_or, lN_or, lN_or]
    rw [or_shl (show sN i + sN j < 2 ^ 3 by omega), or_shl (show sN i + sN j + sB (sP i j) * 2 ^ 3 < 2 ^ 10 by omega)]
    rw [or_shl (show sN i + sN j + sB (sP i j) * 2 ^ 3 + mL l * 2 ^ 10 < 2 ^ (10 + 11 * sN i) by
      have := mL_lt l h.2.2
      rw [h.2.1] at this
      rw [Nat.pow_add, pow11]; omega)]
    apply rL
    unfold tM
    rw [mL_app, h.2.1, q2, Nat.pow_add, pow11, Nat.mul_add, show mL r * (2 ^ 10 * 2048 ^ sN i) = 1024 * (2048 ^ sN i * mL r) by rw [Nat.mul_comm, Nat.mul_assoc]]
    omega
  · rw [if_neg hn, if_neg hn]
theorem t_bit (hd : 1 ≤ d) (h : tv i l) (hb : b < 7) : am_Y d 123 [.long (lN (tM i l)), .int (nI b)] M = some (.inl (some (.int (nI (sB i / 2 ^ b % 2)))), M) := by
  obtain ⟨d, rfl⟩ : ∃ e, d = e + 1 := ⟨d - 1, by omega⟩
  have h1 := tM_lt h
  rw [y_Md_bit, e_Md_bit_0, l_3, nI_add, lN_shr (by omega) (by omega), lN_i, l_1, nI_and, and1, Nat.shiftRight_add, tM_B h, Nat.shiftRight_eq_div_pow]
  congr 5
  rw [show 128 * mL l = 2 ^ b * (2 * (2 ^ (6 - b) * mL l)) by rw [← Nat.mul_assoc, ← Nat.mul_assoc, ← Nat.pow_succ, ← Nat.pow_add, show b + 1 + (6 - b) = 7 by omega], Nat.add_mul_div_left _ _ (Nat.pow_pos (by decide)), Nat.add_mul_mod_self_left]
theorem t_nb (hd : 1 ≤ d) (h : tv i l) (x : Int32) : ∀ q e b z, e + q < 100 → nb (sB i) q e b = some z → am_X (am_Y d) k_Md_bits 5 [(0, .long (lN (tM i l))), (2, .int x), (3, .int (nI e)), (4, .int (nI b))] [] M = some (.inl (some (.int (nI z - x))), M)
  | _, 0, b, z, _, hz => by
    rw [e_Md_bits_5, l_0, if_pos (nI_le (by omega) (by omega)), e_Md_bits_33]
    cases ‹Nat› <;> (simp only [nb, Option.some.injEq] at hz; rw [hz])
  | 0, e + 1, b, z, _, hz => by simp only [nb] at hz; exact nomatch hz
  | q + 1, e + 1, b, z, he, hz => by
    simp only [nb] at hz
    by_cases hb : b < 7
    · rw [if_pos hb] at hz
      rw [e_Md_bits_5, if_neg (by rw [l_0, nI_leI (by omega) (by omega)]; omega), bI (t_bit hd h hb)]
      by_cases hB : sB i / 2 ^ b % 2 = 1
      · rw [if_pos hB] at hz
        rw [hB, if_neg (by decide), e_Md_bits_25, nI_1, nI_1]
        exact t_nb hd h x q (e + 2) (b + 1) z (by omega) hz
      · rw [if_neg hB] at hz
        have : sB i / 2 ^ b % 2 = 0 := by omega
        rw [this, if_pos (by decide), e_Md_bits_24, e_Md_bits_25, nI_1, show nI (e + 1) + -1 = nI e from (Int32.sub_eq_add_neg _ _).symm.trans (nI_pred e)]
        exact t_nb hd h x q e (b + 1) z (by omega) hz
    · rw [if_neg hb] at hz; exact nomatch hz
theorem t_bits (hd : 2 ≤ d) (h : tv i l) (hb : b < 2 * sN i - 1) : am_Y d 125 [.long (lN (tM i l)), .int (nI b)] M = some (.inl (some (.int (nI (sW i b)))), M) := by
  obtain ⟨d, rfl⟩ : ∃ e, d = e + 1 := ⟨d - 1, by omega⟩
  have h4 := sN_le i
  obtain ⟨q1, q2, q3, q4, q5, q6⟩ := sS_f i h.1 b (by omega) hb
  rw [y_Md_bits, e_Md_bits_0]
  have := t_nb (M := M) (show 1 ≤ d by omega) h (nI b) 8 1 b _ (by decide) q2
  rw [nI_sub (by omega), show b + sW i b - b = sW i b by omega] at this
  exact this
def sT (i b : Nat) (l : List Nat) : List Nat := (l.drop (sF i b)).take (sN (sS i b))
theorem tv_sub (h : tv i l) (hb : b < 2 * sN i - 1) : tv (sS i b) (sT i b l) := by
  have h4 := sN_le i
  obtain ⟨q1, q2, q3, q4, q5, q6⟩ := sS_f i h.1 b (by omega) hb
  exact ⟨q1, by rw [sT, List.length_take, List.length_drop, h.2.1]; omega, fun a ha => h.2.2 a (List.mem_of_mem_drop (List.mem_of_mem_take ha))⟩
theorem t_part (hd : 3 ≤ d) (h : tv i l) (hb : b < 2 * sN i - 1) : am_Y d 124 [.long (lN (tM i l)), .int (nI b), .int (nI (sF i b))] M = some (.inl (some (.long (lN (tM (sS i b) (sT i b l))))), M) := by
  obtain ⟨d, rfl⟩ : ∃ e, d = e + 1 := ⟨d - 1, by omega⟩
  have h4 := sN_le i
  have h1 := tM_lt h
  have hs := tv_sub h hb
  obtain ⟨q1, q2, q3, q4, q5, q6⟩ := sS_f i h.1 b (by omega) hb
  have hn := sN_le (sS i b)
  have hn1 := sN_pos _ q1
  have hB := sB_lt _ q1
  have hw : sW i b = 2 * sN (sS i b) - 1 := rfl
  have e0 : (nI (sW i b) + 1) / 2 = nI (sN (sS i b)) := by
    have : ∀ n, n < 5 → 1 ≤ n → (nI (2 * n - 1) + 1) / 2 = nI n := by decide +kernel
    rw [hw]; exact this _ (by omega) hn1
  have e1 : (sB i + 128 * mL l) / 2 ^ b % 2 ^ sW i b = sB (sS i b) := by
    rw [show 128 * mL l = 2 ^ b * (2 ^ sW i b * (2 ^ (7 - b - sW i b) * mL l)) by rw [← Nat.mul_assoc, ← Nat.mul_assoc, ← Nat.pow_add, ← Nat.pow_add, show b + sW i b + (7 - b - sW i b) = 7 by omega], Nat.add_mul_div_left _ _ (Nat.pow_pos (by decide)), Nat.add_mul_mod_self_left, q4]
  have e2 : mL l / 2048 ^ sF i b % 2048 ^ sN (sS i b) = mL (sT i b l) := by
    rw [mL_div h.2.2, mL_mod (fun a ha => h.2.2 a (List.mem_of_mem_drop ha))]; rfl
  have p1 : 1 ≤ 2 ^ sW i b := Nat.pow_pos (by decide)
  have p2 : 1 ≤ 2 ^ (11 * sN (sS i b)) := Nat.pow_pos (by decide)
  have hq : 11 * sN (sS i b) < 64 := by omega
  rw [y_Md_part, e_Md_part_0, bI (t_bits (show 2 ≤ d by omega) h hb), if_neg (by decide), e0, l_3, l_10, l_11, nI_mul, nI_mul, nI_add, nI_add, lN_shr (by omega) (by omega), lN_shr (by omega) (by omega), Nat.shiftRight_add, Nat.shiftRight_add, tM_B h, tM_L h, j_1, lN_shl _ (show sW i b < 64 by omega), lN_shl _ hq, Nat.shiftLeft_eq, Nat.shiftLeft_eq, Nat.one_mul, Nat.one_mul, lN_sub p1, lN_sub p2, lN_and, lN_and, and_m, and_m, Nat.shiftRight_eq_div_pow, Nat.shiftRight_eq_div_pow, e1, pow11, pow11, e2, lN_shl _ (by omega), lN_shl _ (by omega), nI_l (by omega), lN_or, or_shl (show sN (sS i b) < 2 ^ 3 by omega), lN_or, or_shl (show sN (sS i b) + sB (sS i b) * 2 ^ 3 < 2 ^ 10 by omega)]
  apply rL
  unfold tM
  omega
theorem t_leafTerm (hd : 1 ≤ d) {a : Nat} (ha : a < 2013) : am_Y d 108 [.int (nI a)] M = some (.inl (some (.long (lN (tM 0 [a])))), M) := by
  obtain ⟨d, rfl⟩ : ∃ e, d = e + 1 := ⟨d - 1, by omega⟩
  rw [y_Md_leafTerm, e_Md_leafTerm_0, l_10, nI_l (by omega), lN_shl _ (by omega), j_1, lN_or, or_shl (by decide), tM_0, Nat.mul_comm]
theorem t_told (hd : 1 ≤ d) {a : Nat} (ha : a < 2013) : am_Y d 139 [.int (nI a)] M = some (.inl (some (.int (told a))), M) := by
  obtain ⟨d, rfl⟩ : ∃ e, d = e + 1 := ⟨d - 1, by omega⟩
  rw [y_Md_told, e_Md_told_0, show (1999 : Int32) = nI 1999 from rfl]
  simp (disch := omega) only [nI_leI]
  by_cases h1 : a < 1999
  · rw [if_neg (by omega), e_Md_told_33]
    unfold told fF
    rw [if_pos h1]
    rw [← nI_1, show (1000 : Int32) = 1 + 999 from rfl, ← Int32.sub_sub, Int32.add_sub_cancel]
  · rw [if_pos (by omega), e_Md_told_15, show (2007 : Int32) = nI 2007 from rfl]
    simp (disch := omega) only [nI_leI]
    by_cases h2 : a < 2007
    · rw [if_neg (by omega), e_Md_told_33]
      unfold told fF
      rw [if_neg h1, if_pos h2, show a + 1001 = a + 1 + 1000 by omega, ← nI_add, show (1000 : Int32) = nI 1000 from rfl, Int32.add_sub_cancel, nI_1]
    · rw [if_pos (by omega), e_Md_told_28, e_Md_told_33]
      unfold told fF
      rw [if_neg h1, if_neg h2, show a + 1993 = a + 993 + 1000 by omega, ← nI_add, show (1000 : Int32) = nI 1000 from rfl, Int32.add_sub_cancel, ← nI_add]; rfl
theorem t_misInt (hd : 2 ≤ d) (h : tv i l) : am_Y d 130 [.long (lN (tM i l))] M = some (.inl (some (.int (m_b (isN i l)))), M) := by
  obtain ⟨d, rfl⟩ : ∃ e, d = e + 1 := ⟨d - 1, by omega⟩
  have h4 := sN_le i
  have h1 : 1 ≤ d := by omega
  have hg := getD_lt h (sN_pos i h.1)
  rw [y_Md_isInt, e_Md_isInt_0, bI (t_leaves h1 h), l_1]
  simp (disch := omega) only [nI_eq]
  have e : ∀ i, i < 9 → (sN i = 1) = (i = 0) := by decide
  rw [bI (t_leafOf0 h1 h)]
  simp only [e i h.1, show (1999 : Int32) = nI 1999 from rfl]
  simp (disch := omega) only [nI_leI]
  by_cases hi : i = 0
  · rw [if_neg (by omega)]
    by_cases hb : l.getD 0 0 < 1999
    · rw [if_neg (by omega), e_Md_isInt_24]
      simp only [isN, hi, hb, and_self, decide_true, m_b, cond_true]; rfl
    · rw [if_pos (by omega), e_Md_isInt_23, e_Md_isInt_24, ft3_0]
      simp only [isN, hb, and_false, decide_false, m_b, cond_true, cond_false]
  · rw [if_pos hi, e_Md_isInt_23, e_Md_isInt_24, ft3_0]
    simp only [isN, hi, false_and, decide_false, m_b, cond_true, cond_false]
theorem t_actorOf (hd : 2 ≤ d) (h : tv i l) : am_Y d 134 [.long (lN (tM i l))] M = some (.inl (some (.int (if isR i l then nI (l.getD 0 0 - 2007) else -1))), M) := by
  obtain ⟨d, rfl⟩ : ∃ e, d = e + 1 := ⟨d - 1, by omega⟩
  have h4 := sN_le i
  have h1 : 1 ≤ d := by omega
  have hg := getD_lt h (sN_pos i h.1)
  rw [y_Md_actorOf, e_Md_actorOf_0, bI (t_leaves h1 h), l_1]
  simp (disch := omega) only [nI_eq]
  have e : ∀ i, i < 9 → (sN i = 1) = (i = 0) := by decide
  rw [bI (t_leafOf0 h1 h), bI (t_leafOf0 h1 h)]
  simp only [e i h.1, show (2007 : Int32) = nI 2007 from rfl]
  simp (disch := omega) only [nI_ltI]
  by_cases hi : i = 0
  · rw [if_neg (by omega)]
    by_cases hb : l.getD 0 0 < 2007
    · rw [if_pos hb, e_Md_actorOf_31, e_Md_actorOf_32]
      simp only [isR, show ¬ 2007 ≤ l.getD 0 0 by omega, and_false, decide_false, Bool.false_eq_true, if_false]; rfl
    · rw [if_neg hb, nI_sub (by omega), e_Md_actorOf_32]
      simp only [isR, show 2007 ≤ l.getD 0 0 by omega, hi, and_self, decide_true, if_true]
  · rw [if_pos hi, e_Md_actorOf_31, e_Md_actorOf_32]
    simp only [isR, hi, false_and, decide_false, Bool.false_eq_true, if_false]; rfl
end TMo
