/-! TYPE of both -/
def byt (y : Int64) (i : Nat) : Nat := y.toBitVec.toNat / 2 ^ (8 * (7 - i)) % 256
theorem byt_lt (y : Int64) (i : Nat) : byt y i < 256 := Nat.mod_lt _ (by decide)
theorem b255 : ∀ j, j < 32 → 8 ≤ j → (255#32).getLsbD j = false := by decide +kernel
theorem bvS (X : BitVec 64) {m : Nat} (h : m ≤ 56) : (X.sshiftRight m).setWidth 32 &&& 255#32 = (X >>> m).setWidth 32 &&& 255#32 := by
  apply BitVec.eq_of_getLsbD_eq
  intro j hj
  simp only [BitVec.getLsbD_and, BitVec.getLsbD_setWidth, BitVec.getLsbD_sshiftRight, BitVec.getLsbD_ushiftRight]
  by_cases h8 : j < 8
  · rw [if_pos (show m + j < 64 by omega), decide_eq_false (show ¬ 64 ≤ j by omega)]; rfl
  · rw [b255 j hj (by omega), Bool.and_false, Bool.and_false]
theorem bvN (X : BitVec 64) (m : Nat) : (X >>> m).setWidth 32 &&& 255#32 = BitVec.ofNat 32 (X.toNat / 2 ^ m % 256) := by
  apply BitVec.eq_of_toNat_eq
  rw [BitVec.toNat_and, BitVec.toNat_setWidth, BitVec.toNat_ushiftRight, BitVec.toNat_ofNat, BitVec.toNat_ofNat, Nat.shiftRight_eq_div_pow]
  generalize X.toNat / 2 ^ m = z
  show (z % 2 ^ 32) &&& (2 ^ 8 - 1) = _
  rw [Nat.and_two_pow_sub_one_eq_mod]
  omega
def kx (i : Nat) : Int32 := 8 * (7 - nI i)
theorem kx_n : ∀ i, i < 8 → kx i = nI (8 * (7 - i)) := by decide +kernel
theorem kx_s : ∀ i, i < 8 → kx i + (-8) = kx (i + 1) := by decide +kernel
theorem kx_p : ∀ i, i < 8 → ¬ kx i < 0 := by decide +kernel
theorem byC (y : Int64) {i : Nat} (hi : i < 8) : Int64.toInt32 ((Int64.toUInt64 y >>> ((Int32.toInt64 (8 * (7 - nI i))).toUInt64 &&& Int64.toUInt64 63)).toInt64) &&& 255 = nI (byt y i) := by
  rw [show (8 : Int32) * (7 - nI i) = nI (8 * (7 - i)) from kx_n i hi]
  apply Int32.toBitVec_inj.mp
  rw [Int32.toBitVec_and]
  show BitVec.signExtend 32 (Int64.toUInt64 y >>> ((nI (8 * (7 - i))).toInt64.toUInt64 &&& Int64.toUInt64 63)).toBitVec &&& 255#32 = BitVec.ofNat 32 (byt y i)
  rw [UInt64.toBitVec_shiftRight, shu63 _ (by omega), BitVec.signExtend_eq_setWidth_of_le _ (by decide), BitVec.ushiftRight_eq', BitVec.toNat_ofNat, Nat.mod_eq_of_lt (by omega)]
  exact bvN y.toBitVec (8 * (7 - i))
theorem byM (y : Int64) {i : Nat} (hi : i < 8) : Int64.toInt32 (y >>> (Int32.toInt64 (kx i) &&& 63)) &&& 255 = nI (byt y i) := by
  rw [kx_n i hi]
  apply Int32.toBitVec_inj.mp
  rw [Int32.toBitVec_and]
  show BitVec.signExtend 32 (y >>> ((nI (8 * (7 - i))).toInt64 &&& 63)).toBitVec &&& 255#32 = BitVec.ofNat 32 (byt y i)
  rw [Int64.toBitVec_shiftRight, sh63 _ (by omega), BitVec.signExtend_eq_setWidth_of_le _ (by decide), BitVec.sshiftRight_eq', BitVec.toNat_ofNat, Nat.mod_eq_of_lt (by omega), bvS _ (by omega)]
  exact bvN y.toBitVec (8 * (7 - i))
def okB (y : Int64) : Nat → Nat → Bool
  | 0, _ => true
  | q + 1, i => decide (byt y i = 0 ∨ 33 ≤ byt y i ∧ byt y i ≤ 126) && okB y q (i + 1)
def cB (y : Int64) : Nat → Nat → Nat
  | 0, _ => 0
  | q + 1, i => (if byt y i = 0 then 0 else 1) + cB y q (i + 1)
theorem cB_le (y : Int64) : ∀ q i, cB y q i ≤ q
  | 0, _ => Nat.le_refl 0
  | q + 1, i => by unfold cB; have := cB_le y q (i + 1); split <;> omega
def aTy (y : Int64) (p : Nat) : Nat → Nat → sA → sA
  | 0, _, a => a
  | q + 1, i, a => aTy y p q (i + 1) (if byt y i = 0 then a else aU (aU a (10 + p) (a 7 p) (byt y i)) 7 p (a 7 p + 1))
theorem aTy_l {y : Int64} {p : Nat} : ∀ q i a, aTy y p q i a 7 p = a 7 p + cB y q i
  | 0, _, _ => rfl
  | q + 1, i, a => by
    unfold aTy cB
    rw [aTy_l q (i + 1)]
    by_cases h : byt y i = 0
    · rw [if_pos h, if_pos h]; omega
    · rw [if_neg h, if_neg h, aU_s]; omega
theorem aTy_c {y : Int64} {p v : Nat} : ∀ q i a, aU (aTy y p q i a) 0 p v = aTy y p q i (aU a 0 p v)
  | 0, _, _ => rfl
  | q + 1, i, a => by
    unfold aTy
    rw [aTy_c q (i + 1)]
    by_cases h : byt y i = 0
    · rw [if_pos h, if_pos h]
    · rw [if_neg h, if_neg h, aU_n (a := a) (x := 0) (k := p) (v := v) (y := 7) (j := p) (by omega), aU_c (x := 7) (k := p) (y := 0) (j := p) (by omega), aU_c (x := 10 + p) (y := 0) (j := p) (by omega)]
theorem wf_ty {y : Int64} {p : Nat} {b : sQ} (h3 : p < 3) : ∀ q i a, a 0 p = 0 → a 7 p + cB y q i ≤ 60 → wf (a, b) → wf (aTy y p q i a, b)
  | 0, _, _, _, _, h => h
  | q + 1, i, a, h0, hl, h => by
    unfold aTy
    unfold cB at hl
    by_cases hz : byt y i = 0
    · rw [if_pos hz] at hl ⊢
      exact wf_ty h3 q (i + 1) a h0 (by omega) h
    · rw [if_neg hz] at hl ⊢
      refine wf_ty h3 q (i + 1) _ ?_ ?_ (wf_app (S := (a, b)) h3 (show a 7 p < 60 by omega) h0 h)
      · rw [aU_n (by omega), aU_n (by omega)]; exact h0
      · rw [aU_s]; omega
section TY
variable {xs : List Int32} {f : mF} {g : mG} {t u c s d : Nat} {S : sS2} {M : aM} {y : Int64} {p : Nat} {b : sQ}
theorem c_byte {i : Nat} (hd : 1 ≤ d) (hi : i < 8) : am_Y d 70 [.long y, .int (nI i)] M = some (.inl (some (.int (nI (byt y i)))), M) := by
  obtain ⟨d, rfl⟩ : ∃ e, d = e + 1 := ⟨d - 1, by omega⟩
  rw [y_AM_byteAt, e_AM_byteAt_0, byC y hi]
theorem by_0 {i : Nat} : (nI (byt y i) = 0) = (byt y i = 0) := by have := byt_lt y i; rw [l_0, nI_eq (by omega) (by omega)]
theorem by_33 {i : Nat} : (nI (byt y i) < 33) = (byt y i < 33) := by have := byt_lt y i; rw [show (33 : Int32) = nI 33 from rfl, nI_ltI (by omega) (by omega)]
theorem by_126 {i : Nat} : (nI (byt y i) ≤ 126) = (byt y i ≤ 126) := by have := byt_lt y i; rw [show (126 : Int32) = nI 126 from rfl, nI_leI (by omega) (by omega)]
theorem c_cntL (hd : 1 ≤ d) : ∀ q i n, q + i = 8 → am_X (am_Y d) k_AM_countSigns 4 [(0, .long y), (2, .int (nI n)), (3, .int (nI i))] [] M = some (.inl (some (.int (if okB y q i = true then nI (n + cB y q i) else -1))), M) := by
  intro q
  induction q with
  | zero =>
    intro i n hq
    have : i = 8 := by omega
    subst this
    rw [e_AM_countSigns_4, l_8, if_pos (nI_le (by omega) (by omega)), e_AM_countSigns_57]; rfl
  | succ q ih =>
    intro i n hq
    have e8 : ¬ nI 8 ≤ nI i := by rw [nI_leI (by omega) (by omega)]; omega
    rw [e_AM_countSigns_4, l_8, if_neg e8, bI (c_byte hd (by omega))]
    simp only [by_0, by_33, by_126]
    unfold okB cB
    by_cases h0 : byt y i = 0
    · have ho : decide (byt y i = 0 ∨ 33 ≤ byt y i ∧ byt y i ≤ 126) = true := decide_eq_true (.inl h0)
      rw [if_pos h0, e_AM_countSigns_38, if_neg (fun hh => hh (by rw [by_0]; exact h0)), e_AM_countSigns_49, Int32.add_zero, nI_1, ih (i + 1) n (by omega), ho, if_pos h0, Bool.true_and, Nat.zero_add]
    · rw [if_neg h0, if_neg h0]
      by_cases h1 : byt y i < 33
      · rw [if_pos h1, e_AM_countSigns_36, decide_eq_false (by omega), Bool.false_and]; rfl
      · rw [if_neg h1]
        by_cases h2 : byt y i ≤ 126
        · rw [if_pos h2, e_AM_countSigns_38, if_pos (by rw [by_0]; exact h0), e_AM_countSigns_48, e_AM_countSigns_49, nI_1, nI_1, ih (i + 1) (n + 1) (by omega), decide_eq_true (by omega), Bool.true_and, Nat.add_assoc]
        · rw [if_neg h2, e_AM_countSigns_36, decide_eq_false (by omega), Bool.false_and]; rfl
theorem c_cnt (hd : 2 ≤ d) : am_Y d 69 [.long y] M = some (.inl (some (.int (if okB y 8 0 = true then nI (cB y 8 0) else -1))), M) := by
  obtain ⟨d, rfl⟩ : ∃ e, d = e + 1 := ⟨d - 1, by omega⟩
  rw [y_AM_countSigns, e_AM_countSigns_0]
  have := c_cntL (M := M) (y := y) (show 1 ≤ d by omega) 8 0 0 rfl
  rw [Nat.zero_add] at this
  exact this
theorem m_cntL {x1 : Int32} (hd : 1 ≤ d) : ∀ q i n ok, q + i = 8 → am_X (am_Y d) k_Md_type 15 [(0, .ref 139), (1, .int x1), (2, .long y), (4, .int (m_b ok)), (5, .int (nI n)), (6, .int (kx i))] [] M = am_X (am_Y d) k_Md_type 65 [(0, .ref 139), (1, .int x1), (2, .long y), (4, .int (m_b (ok && okB y q i))), (5, .int (nI (n + cB y q i)))] [] M := by
  intro q
  induction q with
  | zero =>
    intro i n ok hq
    have : i = 8 := by omega
    subst this
    rw [e_Md_type_15, if_pos (by decide), okB, Bool.and_true]; rfl
  | succ q ih =>
    intro i n ok hq
    rw [e_Md_type_15, if_neg (kx_p i (by omega))]
    simp only [byM y (show i < 8 by omega), by_0]
    unfold okB cB
    by_cases h0 : byt y i = 0
    · have ho : decide (byt y i = 0 ∨ 33 ≤ byt y i ∧ byt y i ≤ 126) = true := decide_eq_true (.inl h0)
      rw [if_pos h0, e_Md_type_39, if_pos (by rw [by_0]; exact h0), e_Md_type_59, kx_s i (by omega), ih (i + 1) n ok (by omega), ho, if_pos h0, Bool.true_and, Nat.zero_add]
    · rw [if_neg h0, if_neg h0, e_Md_type_39, if_neg (by rw [by_0]; exact h0), c_in hd]
      by_cases h1 : 33 ≤ byt y i ∧ byt y i ≤ 126
      · have hh : 33 ≤ nI (byt y i) ∧ nI (byt y i) ≤ 126 := by rw [by_126, ← Int32.not_lt, by_33]; omega
        rw [decide_eq_true hh, bI rfl, if_pos (by decide), e_Md_type_59, kx_s i (by omega), nI_1, ih (i + 1) (n + 1) ok (by omega), decide_eq_true (by omega), Bool.true_and, Nat.add_assoc]
      · have hh : ¬ (33 ≤ nI (byt y i) ∧ nI (byt y i) ≤ 126) := by rw [by_126, ← Int32.not_lt, by_33]; omega
        rw [decide_eq_false hh, bI rfl, if_neg (by decide), e_Md_type_59, kx_s i (by omega), nI_1, show (0 : Int32) = m_b false from rfl, ih (i + 1) (n + 1) false (by omega), decide_eq_false (by omega), Bool.false_and, Bool.and_false, Nat.add_assoc]
theorem u16b : ∀ n, n < 256 → vp_nar .char ((Int32.toUInt32 (nI n) % 65536).toInt32) = nI n := by decide +kernel
theorem c_append {v : Nat} (hd : 1 ≤ d) (h3 : p < 3) (hc : cA f g S.1 S.2) (hv : v < 256) (hl : S.1 7 p < 60) : am_Y d 57 [.ref (7 + 2 * p), .int ((Int32.toUInt32 (nI v) % 65536).toInt32)] (mM xs f g t u c s) = some (.inl none, mM xs (m_u (m_u f (7 + 2 * p + 1) (S.1 7 p) (nI v)) (7 + 2 * p) 1 (nI (S.1 7 p + 1))) g t u c s) := by
  obtain ⟨d, rfl⟩ : ∃ e, d = e + 1 := ⟨d - 1, by omega⟩
  have hT := mT_p h3
  have hl1 : f (7 + 2 * p) 1 = nI (S.1 7 p) := by have := hc.2.2.2.2.2.2.2.2.2.2.1 p (by omega); rw [tq_p h3] at this; exact this
  have hl2 : ∀ w, m_u f (7 + 2 * p + 1) (S.1 7 p) w (7 + 2 * p) 1 = nI (S.1 7 p) := fun w => by rw [m_un (by omega)]; exact hl1
  simp (maxSteps := 4000000) (disch := first | omega | assumption) only [↓b_ix, ↓b_l3, ↓b_a3_0, ↓b_a3_1, ↓b_a3_2, ↓b_l4, ↓b_a4_0, ↓b_a4_1, ↓b_a4_2, ↓b_a4_3, ↓b_l129, ↓b_a129_0, ↓b_l130, ↓b_i130_1, ↓b_wi130_1, ↓b_l133, ↓b_a133_0, ↓b_a133_1, ↓b_i133_2, ↓b_wi133_2, ↓b_j133_3, ↓b_wj133_3, ↓b_i133_4, ↓b_wi133_4, ↓b_l134, ↓b_a134_0, ↓b_a134_1, ↓b_i134_2, ↓b_wi134_2, ↓b_i134_3, ↓b_wi134_3, ↓b_l135, ↓b_i135_1, ↓b_wi135_1, ↓b_l139, ↓b_a139_0, ↓b_a139_1, ↓b_a139_2, ↓b_a139_3, ↓b_a139_4, ↓b_a139_5, ↓b_a139_6, ↓b_a139_7, ↓b_a139_8, ↓b_a139_9, ↓b_a139_10, ↓b_a139_11, ↓b_a139_12, ↓b_a139_13, ↓b_a139_14, ↓b_i139_15, ↓b_wi139_15, ↓b_i139_16, ↓b_wi139_16, ↓b_i139_17, ↓b_wi139_17, ↓b_a139_18, ↓b_i139_19, ↓b_wi139_19, ↓b_i139_20, ↓b_wi139_20, ↓b_i139_21, ↓b_wi139_21, ↓b_l6, ↓b_i6, ↓b_wi6, ↓b_l140, ↓b_i140, ↓b_wi140, ↓b_l141, ↓b_i141, ↓b_wi141, ↓b_l142, ↓b_i142, ↓b_wi142, ↓b_l143, ↓b_i143, ↓b_wi143, ↓b_l144, ↓b_j144, ↓b_wj144, ↓b_l145, ↓b_j145, ↓b_wj145, ↓b_l146, ↓b_i146, ↓b_wi146, ↓b_l147, ↓b_i147, ↓b_wi147, ↓b_l148, ↓b_i148, ↓b_wi148, ↓b_l149, ↓b_i149, ↓b_wi149, ↓b_l150, ↓b_j150, ↓b_wj150, ↓b_l151, ↓b_i151, ↓b_wi151, ↓b_l152, ↓b_j152, ↓b_wj152, ↓b_l153, ↓b_i153, ↓b_wi153, ↓b_l154, ↓b_i154, ↓b_wi154, ↓b_l155, ↓b_j155, ↓b_wj155, ↓b_l156, ↓b_j156, ↓b_wj156, ↓b_l138, ↓b_j138, ↓b_wj138, ↓b_a5, ↓b_a13, ↓b_a44, ↓b_lA, ↓b_aA_0, ↓b_aA_1, ↓b_iA_2, ↓b_wiA_2, ↓b_iA_4, ↓b_wiA_4, ↓b_iA_5, ↓b_wiA_5, ↓b_iA_6, ↓b_wiA_6, ↓b_jA_3, ↓b_wjA_3, ↓b_lT, ↓b_lTc, ↓b_aT, ↓b_iT, ↓b_wiT, ↓b_iTc, ↓b_wiTc, ↓b_lW, ↓b_lWc, ↓b_aW, ↓b_iW, ↓b_wiW, ↓b_jWc, ↓b_wjWc, ↓b_rt, ↓b_ru, ↓b_wt, ↓b_wu, ↓b_0l, ↓b_0, ↓b_1, ↓b_2, m_tk, ↓reduceIte, cond_true, cond_false, Option.bind_some, y_Text_append, e_Text_append_0, e_Text_append_29, ↓b_iT _ hT, ↓b_aT _ hT, ↓b_wiT _ hT, ↓b_wiTc _ hT, hl1, hl2, e60, u16b, nI_1, i_11, i_01, i_1_0, i_0_1, not_true, not_false_eq_true, if_true, if_false, Bool.true_eq_false, Bool.false_eq_true, decide_true, decide_false]
theorem c_appL (hd : 1 ≤ d) (h3 : p < 3) : ∀ q i f a, q + i = 8 → cA f g a b → a 7 p + cB y q i ≤ 60 → ∃ F, am_X (am_Y d) k_AM_type 57 [(0, .ref 3), (1, .int (nI p)), (2, .long y), (5, .ref (7 + 2 * p)), (6, .int (nI i))] [] (mM xs f g t u c s) = am_X (am_Y d) k_AM_type 91 [(0, .ref 3), (1, .int (nI p)), (5, .ref (7 + 2 * p))] [] (mM xs F g t u c s) ∧ cA F g (aTy y p q i a) b ∧ ∀ x k, 139 ≤ x → F x k = f x k := by
  intro q
  induction q with
  | zero =>
    intro i f a hq hc _
    have : i = 8 := by omega
    subst this
    exact ⟨f, by rw [e_AM_type_57, l_8, if_pos (nI_le (by omega) (by omega))], hc, fun _ _ _ => rfl⟩
  | succ q ih =>
    intro i f a hq hc hl
    have e8 : ¬ nI 8 ≤ nI i := by rw [nI_leI (by omega) (by omega)]; omega
    have hT := mT_p h3
    unfold cB at hl
    unfold aTy
    rw [e_AM_type_57, l_8, if_neg e8, bI (c_byte hd (by omega))]
    simp only [by_0]
    by_cases h0 : byt y i = 0
    · rw [if_pos h0] at hl ⊢
      rw [if_pos h0, e_AM_type_85, nI_1]
      exact ih (i + 1) f a (by omega) hc (by omega)
    · rw [if_neg h0] at hl ⊢
      have h60 : a 7 p < 60 := by omega
      have := cA_app (q := p) (v := byt y i) hc (by omega) h60 (by have := byt_lt y i; omega)
      rw [tq_p h3] at this
      obtain ⟨F, r1, r2, r3⟩ := ih (i + 1) _ _ (by omega) this (by rw [aU_s]; omega)
      refine ⟨F, ?_, ?_, fun x k hx => ?_⟩
      · rw [b_lT _ hT, bV (c_append (S := (a, b)) hd h3 hc (byt_lt y i) h60), e_AM_type_85, nI_1]
        exact r1
      · rw [if_neg h0]; exact r2
      · rw [r3 x k hx, m_un (by omega), m_un (by omega)]
theorem m_appL (h3 : p < 3) : ∀ q i f a, q + i = 8 → mA f g a b → a 7 p + cB y q i ≤ 60 → ∃ F, am_X (am_Y d) k_Md_type 109 [(0, .ref 139), (1, .int (nI p)), (2, .long y), (6, .int (kx i))] [] (mM xs f g t u c s) = am_X (am_Y d) k_Md_type 164 [(0, .ref 139), (1, .int (nI p))] [] (mM xs F g t u c s) ∧ mA F g (aTy y p q i a) b ∧ (∀ x k, (x < 140 ∨ 141 < x) → F x k = f x k) := by
  intro q
  induction q with
  | zero =>
    intro i f a hq hm _
    have : i = 8 := by omega
    subst this
    exact ⟨f, by rw [e_Md_type_109, if_pos (by decide)], hm, fun _ _ _ => rfl⟩
  | succ q ih =>
    intro i f a hq hm hl
    unfold cB at hl
    unfold aTy
    rw [e_Md_type_109, if_neg (kx_p i (by omega))]
    simp only [byM y (show i < 8 by omega), by_0]
    by_cases h0 : byt y i = 0
    · rw [if_pos h0] at hl ⊢
      rw [if_pos h0, e_Md_type_158, kx_s i (by omega)]
      exact ih (i + 1) f a (by omega) hm (by omega)
    · rw [if_neg h0] at hl ⊢
      have h60 : a 7 p < 60 := by omega
      have := mA_app (q := p) (v := byt y i) hm (by omega) h60
      obtain ⟨F, r1, r2, r3⟩ := ih (i + 1) _ _ (by omega) this (by rw [aU_s]; omega)
      have l1 : f 141 p = nI (a 7 p) := hm.2.2.2.2.2.2.2.2.2.2.1 p (by omega)
      have l2 : ∀ k w, m_u f 140 k w 141 p = nI (a 7 p) := fun k w => by rw [m_un (by omega)]; exact l1
      have ei : 60 * nI p + nI (a 7 p) = nI (60 * p + a 7 p) := by rw [l_60, nI_mul, nI_add]
      refine ⟨F, ?_, ?_, fun x k hx => ?_⟩
      · rw [← r1]
        simp (maxSteps := 4000000) (disch := first | omega | assumption) only [↓b_ix, ↓b_l3, ↓b_a3_0, ↓b_a3_1, ↓b_a3_2, ↓b_l4, ↓b_a4_0, ↓b_a4_1, ↓b_a4_2, ↓b_a4_3, ↓b_l129, ↓b_a129_0, ↓b_l130, ↓b_i130_1, ↓b_wi130_1, ↓b_l133, ↓b_a133_0, ↓b_a133_1, ↓b_i133_2, ↓b_wi133_2, ↓b_j133_3, ↓b_wj133_3, ↓b_i133_4, ↓b_wi133_4, ↓b_l134, ↓b_a134_0, ↓b_a134_1, ↓b_i134_2, ↓b_wi134_2, ↓b_i134_3, ↓b_wi134_3, ↓b_l135, ↓b_i135_1, ↓b_wi135_1, ↓b_l139, ↓b_a139_0, ↓b_a139_1, ↓b_a139_2, ↓b_a139_3, ↓b_a139_4, ↓b_a139_5, ↓b_a139_6, ↓b_a139_7, ↓b_a139_8, ↓b_a139_9, ↓b_a139_10, ↓b_a139_11, ↓b_a139_12, ↓b_a139_13, ↓b_a139_14, ↓b_i139_15, ↓b_wi139_15, ↓b_i139_16, ↓b_wi139_16, ↓b_i139_17, ↓b_wi139_17, ↓b_a139_18, ↓b_i139_19, ↓b_wi139_19, ↓b_i139_20, ↓b_wi139_20, ↓b_i139_21, ↓b_wi139_21, ↓b_l6, ↓b_i6, ↓b_wi6, ↓b_l140, ↓b_i140, ↓b_wi140, ↓b_l141, ↓b_i141, ↓b_wi141, ↓b_l142, ↓b_i142, ↓b_wi142, ↓b_l143, ↓b_i143, ↓b_wi143, ↓b_l144, ↓b_j144, ↓b_wj144, ↓b_l145, ↓b_j145, ↓b_wj145, ↓b_l146, ↓b_i146, ↓b_wi146, ↓b_l147, ↓b_i147, ↓b_wi147, ↓b_l148, ↓b_i148, ↓b_wi148, ↓b_l149, ↓b_i149, ↓b_wi149, ↓b_l150, ↓b_j150, ↓b_wj150, ↓b_l151, ↓b_i151, ↓b_wi151, ↓b_l152, ↓b_j152, ↓b_wj152, ↓b_l153, ↓b_i153, ↓b_wi153, ↓b_l154, ↓b_i154, ↓b_wi154, ↓b_l155, ↓b_j155, ↓b_wj155, ↓b_l156, ↓b_j156, ↓b_wj156, ↓b_l138, ↓b_j138, ↓b_wj138, ↓b_a5, ↓b_a13, ↓b_a44, ↓b_lA, ↓b_aA_0, ↓b_aA_1, ↓b_iA_2, ↓b_wiA_2, ↓b_iA_4, ↓b_wiA_4, ↓b_iA_5, ↓b_wiA_5, ↓b_iA_6, ↓b_wiA_6, ↓b_jA_3, ↓b_wjA_3, ↓b_lT, ↓b_lTc, ↓b_aT, ↓b_iT, ↓b_wiT, ↓b_iTc, ↓b_wiTc, ↓b_lW, ↓b_lWc, ↓b_aW, ↓b_iW, ↓b_wiW, ↓b_jWc, ↓b_wjWc, ↓b_rt, ↓b_ru, ↓b_wt, ↓b_wu, ↓b_0l, ↓b_0, ↓b_1, ↓b_2, m_tk, ↓reduceIte, cond_true, cond_false, Option.bind_some, l1, l2, ei, nI_1, e_Md_type_158, kx_s]
      · rw [if_neg h0]; exact r2
      · rw [r3 x k hx, m_un (by omega), m_un (by omega)]
end TY
